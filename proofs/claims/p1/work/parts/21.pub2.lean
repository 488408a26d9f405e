set_option maxHeartbeats 4000000 in
set_option maxRecDepth 100000 in
theorem c_heat (l : Launch) (D : va_G) (b : Nat) (tx : Nat) (st : Nat) (ct : Nat)  : zz_MI l yX0_heat wsX0_heat 1 24 0 0 D [.ref b] [(b, .inr (0, [.ref tx, .ref st, .ref ct, .int 0, .int 0, .int 3, .int 0, .int 0, .int 10, .int 0, .int 0, .int 0, .int 0, .int 1]))] [] (fun (r : Int32) (u : Unit) => r = 20) (fun (u : Unit) => [(b, .inr (0, [.ref tx, .ref st, .ref ct, .int 0, .int 0, .int 3, .int 0, .int 0, .int 10, .int 0, .int 0, .int 0, .int 0, .int 1]))]) (fun (u : Unit) => []) := by
  intro sz
  refine Met.ofW (cc := cX0_heat) (maxL := 1) (ret := (some .int)) (by decide) rfl ?_
  intro p e s m args below meth c s₁ B hml hv
  obtain ⟨rfl, hC⟩ := hv
  have hx := B.exec
  have hb := B.bytes
  have hr := B.returns
  have hts := atoms_spec (ws := wsX0_heat) B.pre
  have hown : s.vm.findClass RX0 = some m.cls := findClass_of_methodNamed B.named
  have hlk := B.notSynchronized
  have X : CallFix p m c cX0_heat 1 s _ wsX0_heat RX0 := ⟨hx, hb, hml, hown, hts⟩
  have Z := zz_enter hC
  generalize va_A [(b, .inr (0, [.ref tx, .ref st, .ref ct, .int 0, .int 0, .int 3, .int 0, .int 0, .int 10, .int 0, .int 0, .int 0, .int 0, .int 1]))] sz = A at Z ⊢
  have hl := lv_entry ([.ref b]) (n := 1) (Nat.le_of_ble_eq_true rfl)
  rw [lg_entry_eq]
  generalize (lg_sl ([.ref b]) ++ List.replicate (1 - (lg_sl ([.ref b])).length) Slot.unset).toArray = ls at hl ⊢
  have hl : lv_has ls 1 [(0, .ref b)] := hl
  refine lv_bipush (v := 45) hx hb dX0_heat_0 (by decide) ?_
  refine lv_iconst (v := 5) hx hb dX0_heat_2 (by decide) ?_
  refine lv_aload_n hx hb dX0_heat_3 rfl (lv_at hl 0 rfl) ?_
  refine zz_get X Z 0 rfl rfl (fun w h => List.mem_cons_of_mem _ (List.mem_append_right _ h)) 7 rfl (zz_m 1 rfl) rfl dX0_heat_4 ?_
  refine lv_bipush (v := 10) hx hb dX0_heat_7 (by decide) ?_
  refine lv_irem hx hb dX0_heat_9 (by decide) ?_
  refine zz_v (v := 0) (by decide) ?_
  refine lv_iconst (v := 5) hx hb dX0_heat_10 (by decide) ?_
  refine lv_isub hx hb dX0_heat_11 ?_
  refine zz_v (v := (-5)) (by decide) ?_
  refine va_mabs hx hb (by rw [hml]; exact hl.1.symm) hown (hts _ (zz_m 2 rfl)) (hts _ (zz_m 3 rfl)) (hts _ (zz_m 4 rfl)) (hts _ (zz_m 5 rfl)) (Nat.le_of_ble_eq_true rfl) (Nat.le_of_ble_eq_true rfl) (Nat.le_of_ble_eq_true rfl) (Nat.le_of_ble_eq_true rfl) dX0_heat_12 ?_
  refine zz_v (v := 5) (by decide) ?_
  refine lv_imul hx hb dX0_heat_15 ?_
  refine zz_v (v := 25) (by decide) ?_
  refine lv_isub hx hb dX0_heat_16 ?_
  refine zz_v (v := 20) (by decide) ?_
  exact zz_iret X hr hlk Z () rfl [0] [] (by decide +kernel) rfl rfl dX0_heat_17

set_option maxHeartbeats 4000000 in
set_option maxRecDepth 100000 in
theorem c_slant (l : Launch) (D : va_G) (b : Nat) (tx : Nat) (st : Nat) (ct : Nat)  : zz_MI l yX0_slant wsX0_slant 0 0 0 0 D [.ref b] [(b, .inr (0, [.ref tx, .ref st, .ref ct, .int 0, .int 0, .int 3, .int 0, .int 0, .int 10, .int 0, .int 0, .int 0, .int 0, .int 1]))] [] (fun (r : Int32) (u : Unit) => r = (-2)) (fun (u : Unit) => [(b, .inr (0, [.ref tx, .ref st, .ref ct, .int 0, .int 0, .int 3, .int 0, .int 0, .int 10, .int 0, .int 0, .int 0, .int 0, .int 1]))]) (fun (u : Unit) => []) := by
  intro sz
  refine Met.ofW (cc := cX0_slant) (maxL := 1) (ret := (some .int)) (by decide) rfl ?_
  intro p e s m args below meth c s₁ B hml hv
  obtain ⟨rfl, hC⟩ := hv
  have hx := B.exec
  have hb := B.bytes
  have hr := B.returns
  have hts := atoms_spec (ws := wsX0_slant) B.pre
  have hown : s.vm.findClass RX0 = some m.cls := findClass_of_methodNamed B.named
  have hlk := B.notSynchronized
  have X : CallFix p m c cX0_slant 1 s _ wsX0_slant RX0 := ⟨hx, hb, hml, hown, hts⟩
  have Z := zz_enter hC
  generalize va_A [(b, .inr (0, [.ref tx, .ref st, .ref ct, .int 0, .int 0, .int 3, .int 0, .int 0, .int 10, .int 0, .int 0, .int 0, .int 0, .int 1]))] sz = A at Z ⊢
  have hl := lv_entry ([.ref b]) (n := 1) (Nat.le_of_ble_eq_true rfl)
  rw [lg_entry_eq]
  generalize (lg_sl ([.ref b]) ++ List.replicate (1 - (lg_sl ([.ref b])).length) Slot.unset).toArray = ls at hl ⊢
  have hl : lv_has ls 1 [(0, .ref b)] := hl
  refine lv_aload_n hx hb dX0_slant_0 rfl (lv_at hl 0 rfl) ?_
  refine zz_get X Z 0 rfl rfl (fun w h => List.mem_cons_of_mem _ (List.mem_append_right _ h)) 7 rfl (zz_m 1 rfl) rfl dX0_slant_1 ?_
  refine lv_bipush (v := 10) hx hb dX0_slant_4 (by decide) ?_
  refine lv_irem hx hb dX0_slant_6 (by decide) ?_
  refine zz_v (v := 0) (by decide) ?_
  refine lv_iconst (v := 5) hx hb dX0_slant_7 (by decide) ?_
  refine lv_isub hx hb dX0_slant_8 ?_
  refine zz_v (v := (-5)) (by decide) ?_
  refine lv_iconst (v := 2) hx hb dX0_slant_9 (by decide) ?_
  refine lv_idiv hx hb dX0_slant_10 (by decide) ?_
  refine zz_v (v := (-2)) (by decide) ?_
  exact zz_iret X hr hlk Z () rfl [0] [] (by decide +kernel) rfl rfl dX0_slant_11

set_option maxHeartbeats 4000000 in
set_option maxRecDepth 100000 in
theorem c_would (l : Launch) (D : va_G) (b : Nat) (tx : Nat) (st : Nat) (ct : Nat)  : zz_MI l yX0_wouldShade wsX0_wouldShade 1 20 0 0 D [.ref b, .int 0, .int 0] [(b, .inr (0, [.ref tx, .ref st, .ref ct, .int 0, .int 0, .int 3, .int 0, .int 0, .int 10, .int 0, .int 0, .int 0, .int 0, .int 1]))] [] (fun (r : Int32) (u : Unit) => r = 1) (fun (u : Unit) => [(b, .inr (0, [.ref tx, .ref st, .ref ct, .int 0, .int 0, .int 3, .int 0, .int 0, .int 10, .int 0, .int 0, .int 0, .int 0, .int 1]))]) (fun (u : Unit) => []) := by
  intro sz
  refine Met.ofW (cc := cX0_wouldShade) (maxL := 4) (ret := (some .boolean)) (by decide) rfl ?_
  intro p e s m args below meth c s₁ B hml hv
  obtain ⟨rfl, hC⟩ := hv
  have hx := B.exec
  have hb := B.bytes
  have hr := B.returns
  have hts := atoms_spec (ws := wsX0_wouldShade) B.pre
  have hown : s.vm.findClass RX0 = some m.cls := findClass_of_methodNamed B.named
  have hlk := B.notSynchronized
  have X : CallFix p m c cX0_wouldShade 4 s _ wsX0_wouldShade RX0 := ⟨hx, hb, hml, hown, hts⟩
  have Z := zz_enter hC
  generalize va_A [(b, .inr (0, [.ref tx, .ref st, .ref ct, .int 0, .int 0, .int 3, .int 0, .int 0, .int 10, .int 0, .int 0, .int 0, .int 0, .int 1]))] sz = A at Z ⊢
  have hl := lv_entry ([.ref b, .int 0, .int 0]) (n := 4) (Nat.le_of_ble_eq_true rfl)
  rw [lg_entry_eq]
  generalize (lg_sl ([.ref b, .int 0, .int 0]) ++ List.replicate (4 - (lg_sl ([.ref b, .int 0, .int 0])).length) Slot.unset).toArray = ls at hl ⊢
  have hl : lv_has ls 4 [(0, .ref b), (1, .int 0), (2, .int 0)] := hl
  refine lv_iload_n hx hb dX0_wouldShade_0 rfl (lv_at hl 1 rfl) ?_
  refine lv_aload_n hx hb dX0_wouldShade_1 rfl (lv_at hl 0 rfl) ?_
  refine zz_ci (WC := [(b, .inr (0, [.ref tx, .ref st, .ref ct, .int 0, .int 0, .int 3, .int 0, .int 0, .int 10, .int 0, .int 0, .int 0, .int 0, .int 1]))]) (TC := []) (WR := []) (TR := []) (k := 0) (n := 0) Z [0] [] [] [] rfl rfl (by decide +kernel) (by decide +kernel) (by decide +kernel) rfl rfl (fun Zc => va_runV (As := []) (rest := [.int 0]) X (c_slant l D b tx st ct s.heap.size) (cwV 0 hts gX0_wouldShade_X0_slant rfl rfl rfl ⟨rfl, zh_X0_slant⟩ ⟨Nat.le_of_ble_eq_true rfl, Nat.le_of_ble_eq_true rfl⟩) (zz_pV (ci := 0) Zc 0 rfl rfl) rfl rfl hl.1 rfl (lv_room (Nat.le_of_ble_eq_true rfl)) dX0_wouldShade_2 ⟨Nat.le_of_ble_eq_true rfl, Nat.le_of_ble_eq_true rfl⟩) rfl rfl (fun r3 u1 H1 locs2 hw2 Z3 => ?_)
  clear Z
  have hw2 : r3 = (-2) := hw2.trans (by decide)
  subst r3
  have Z4 : zz_S D A s [(b, .inr (0, [.ref tx, .ref st, .ref ct, .int 0, .int 0, .int 3, .int 0, .int 0, .int 10, .int 0, .int 0, .int 0, .int 0, .int 1]))] [] H1 locs2 := Z3
  clear Z3
  refine lv_iadd hx hb dX0_wouldShade_5 ?_
  refine zz_v (v := (-2)) (by decide) ?_
  refine lv_istore_n (lv' := [(3, .int (-2)), (0, .ref b), (1, .int 0), (2, .int 0)]) hx hb dX0_wouldShade_6 rfl hl (by decide) rfl (fun ls5 hl6 => ?_)
  clear hl
  refine lv_iload_n hx hb dX0_wouldShade_7 rfl (lv_at hl6 3 rfl) ?_
  refine lv_iload_n hx hb dX0_wouldShade_8 rfl (lv_at hl6 0 rfl) ?_
  refine lv_icmp_lt (tgt := 26) hx hb dX0_wouldShade_9 (by decide) (fun h => absurd h (by decide)) (fun _ => ?_)
  refine lv_iload_n hx hb dX0_wouldShade_12 rfl (lv_at hl6 3 rfl) ?_
  refine lv_iload_n hx hb dX0_wouldShade_13 rfl (lv_at hl6 0 rfl) ?_
  refine lv_aload_n hx hb dX0_wouldShade_14 rfl (lv_at hl6 1 rfl) ?_
  refine zz_get X Z4 0 rfl rfl (fun w h => List.mem_cons_of_mem _ (List.mem_append_right _ h)) 5 rfl (zz_m 1 rfl) rfl dX0_wouldShade_15 ?_
  refine lv_iadd hx hb dX0_wouldShade_18 ?_
  refine zz_v (v := 1) (by decide) ?_
  refine lv_icmp_ge (tgt := 26) hx hb dX0_wouldShade_19 (by decide) (fun h => absurd h (by decide)) (fun _ => ?_)
  refine lv_iconst (v := 1) hx hb dX0_wouldShade_22 (by decide) ?_
  refine lv_goto (tgt := 27) hx hb dX0_wouldShade_23 (by decide) ?_
  exact zz_zret X hr hlk Z4 (by decide) () rfl [0] [] (by decide +kernel) rfl rfl dX0_wouldShade_27

set_option maxHeartbeats 4000000 in
set_option maxRecDepth 100000 in
theorem c_shades (l : Launch) (D : va_G) (b : Nat) (tx : Nat) (st : Nat) (ct : Nat)  : zz_MI l yX0_shades wsX0_shades 2 43 0 0 D [.ref b, .int 0] [(b, .inr (0, [.ref tx, .ref st, .ref ct, .int 0, .int 0, .int 3, .int 0, .int 0, .int 10, .int 0, .int 0, .int 0, .int 0, .int 1]))] [] (fun (r : Int32) (u : Unit) => r = 1) (fun (u : Unit) => [(b, .inr (0, [.ref tx, .ref st, .ref ct, .int 0, .int 0, .int 3, .int 0, .int 0, .int 10, .int 0, .int 0, .int 0, .int 0, .int 1]))]) (fun (u : Unit) => []) := by
  intro sz
  refine Met.ofW (cc := cX0_shades) (maxL := 2) (ret := (some .boolean)) (by decide) rfl ?_
  intro p e s m args below meth c s₁ B hml hv
  obtain ⟨rfl, hC⟩ := hv
  have hx := B.exec
  have hb := B.bytes
  have hr := B.returns
  have hts := atoms_spec (ws := wsX0_shades) B.pre
  have hown : s.vm.findClass RX0 = some m.cls := findClass_of_methodNamed B.named
  have hlk := B.notSynchronized
  have X : CallFix p m c cX0_shades 2 s _ wsX0_shades RX0 := ⟨hx, hb, hml, hown, hts⟩
  have Z := zz_enter hC
  generalize va_A [(b, .inr (0, [.ref tx, .ref st, .ref ct, .int 0, .int 0, .int 3, .int 0, .int 0, .int 10, .int 0, .int 0, .int 0, .int 0, .int 1]))] sz = A at Z ⊢
  have hl := lv_entry ([.ref b, .int 0]) (n := 2) (Nat.le_of_ble_eq_true rfl)
  rw [lg_entry_eq]
  generalize (lg_sl ([.ref b, .int 0]) ++ List.replicate (2 - (lg_sl ([.ref b, .int 0])).length) Slot.unset).toArray = ls at hl ⊢
  have hl : lv_has ls 2 [(0, .ref b), (1, .int 0)] := hl
  refine lv_aload_n hx hb dX0_shades_0 rfl (lv_at hl 0 rfl) ?_
  refine lv_aload_n hx hb dX0_shades_1 rfl (lv_at hl 0 rfl) ?_
  refine zz_get X Z 0 rfl rfl (fun w h => List.mem_cons_of_mem _ (List.mem_append_right _ h)) 6 rfl (zz_m 1 rfl) rfl dX0_shades_2 ?_
  refine lv_iload_n hx hb dX0_shades_5 rfl (lv_at hl 1 rfl) ?_
  refine zz_ci (WC := [(b, .inr (0, [.ref tx, .ref st, .ref ct, .int 0, .int 0, .int 3, .int 0, .int 0, .int 10, .int 0, .int 0, .int 0, .int 0, .int 1]))]) (TC := []) (WR := []) (TR := []) (k := 0) (n := 0) Z [0] [] [] [] rfl rfl (by decide +kernel) (by decide +kernel) (by decide +kernel) rfl rfl (fun Zc => va_runV (As := [.int 0, .int 0]) (rest := []) X (c_would l D b tx st ct s.heap.size) (cwV 2 hts gX0_shades_X0_wouldShade rfl rfl rfl ⟨rfl, zh_X0_wouldShade⟩ ⟨Nat.le_of_ble_eq_true rfl, Nat.le_of_ble_eq_true rfl⟩) (zz_pV (ci := 0) Zc 0 rfl rfl) rfl rfl hl.1 rfl (lv_room (Nat.le_of_ble_eq_true rfl)) dX0_shades_6 ⟨Nat.le_of_ble_eq_true rfl, Nat.le_of_ble_eq_true rfl⟩) rfl rfl (fun r3 u1 H1 locs2 hw2 Z3 => ?_)
  clear Z
  have hw2 : r3 = 1 := hw2.trans (by decide)
  subst r3
  have Z4 : zz_S D A s [(b, .inr (0, [.ref tx, .ref st, .ref ct, .int 0, .int 0, .int 3, .int 0, .int 0, .int 10, .int 0, .int 0, .int 0, .int 0, .int 1]))] [] H1 locs2 := Z3
  clear Z3
  exact zz_zret X hr hlk Z4 (by decide) () rfl [0] [] (by decide +kernel) rfl rfl dX0_shades_9

set_option maxHeartbeats 4000000 in
set_option maxRecDepth 100000 in
theorem c_firstShaded (l : Launch) (D : va_G) (b : Nat) (tx : Nat) (st : Nat) (ct : Nat)  : zz_MI l yX0_firstShaded wsX0_firstShaded 3 64 0 0 D [.ref b] [(b, .inr (0, [.ref tx, .ref st, .ref ct, .int 0, .int 0, .int 3, .int 0, .int 0, .int 10, .int 0, .int 0, .int 0, .int 0, .int 1]))] [] (fun (r : Int32) (u : Unit) => r = 0) (fun (u : Unit) => [(b, .inr (0, [.ref tx, .ref st, .ref ct, .int 0, .int 0, .int 3, .int 0, .int 0, .int 10, .int 0, .int 0, .int 0, .int 0, .int 1]))]) (fun (u : Unit) => []) := by
  intro sz
  refine Met.ofW (cc := cX0_firstShaded) (maxL := 2) (ret := (some .int)) (by decide) rfl ?_
  intro p e s m args below meth c s₁ B hml hv
  obtain ⟨rfl, hC⟩ := hv
  have hx := B.exec
  have hb := B.bytes
  have hr := B.returns
  have hts := atoms_spec (ws := wsX0_firstShaded) B.pre
  have hown : s.vm.findClass RX0 = some m.cls := findClass_of_methodNamed B.named
  have hlk := B.notSynchronized
  have X : CallFix p m c cX0_firstShaded 2 s _ wsX0_firstShaded RX0 := ⟨hx, hb, hml, hown, hts⟩
  have Z := zz_enter hC
  generalize va_A [(b, .inr (0, [.ref tx, .ref st, .ref ct, .int 0, .int 0, .int 3, .int 0, .int 0, .int 10, .int 0, .int 0, .int 0, .int 0, .int 1]))] sz = A at Z ⊢
  have hl := lv_entry ([.ref b]) (n := 2) (Nat.le_of_ble_eq_true rfl)
  rw [lg_entry_eq]
  generalize (lg_sl ([.ref b]) ++ List.replicate (2 - (lg_sl ([.ref b])).length) Slot.unset).toArray = ls at hl ⊢
  have hl : lv_has ls 2 [(0, .ref b)] := hl
  refine lv_iconst (v := 0) hx hb dX0_firstShaded_0 (by decide) ?_
  refine lv_istore_n (lv' := [(1, .int 0), (0, .ref b)]) hx hb dX0_firstShaded_1 rfl hl (by decide) rfl (fun ls1 hl2 => ?_)
  clear hl
  refine lv_iload_n hx hb dX0_firstShaded_2 rfl (lv_at hl2 0 rfl) ?_
  refine lv_bipush (v := 12) hx hb dX0_firstShaded_3 (by decide) ?_
  refine lv_icmp_ge (tgt := 24) hx hb dX0_firstShaded_5 (by decide) (fun h => absurd h (by decide)) (fun _ => ?_)
  refine lv_aload_n hx hb dX0_firstShaded_8 rfl (lv_at hl2 1 rfl) ?_
  refine lv_iload_n hx hb dX0_firstShaded_9 rfl (lv_at hl2 0 rfl) ?_
  refine zz_ci (WC := [(b, .inr (0, [.ref tx, .ref st, .ref ct, .int 0, .int 0, .int 3, .int 0, .int 0, .int 10, .int 0, .int 0, .int 0, .int 0, .int 1]))]) (TC := []) (WR := []) (TR := []) (k := 0) (n := 0) Z [0] [] [] [] rfl rfl (by decide +kernel) (by decide +kernel) (by decide +kernel) rfl rfl (fun Zc => va_runV (As := [.int 0]) (rest := []) X (c_shades l D b tx st ct s.heap.size) (cwV 1 hts gX0_firstShaded_X0_shades rfl rfl rfl ⟨rfl, zh_X0_shades⟩ ⟨Nat.le_of_ble_eq_true rfl, Nat.le_of_ble_eq_true rfl⟩) (zz_pV (ci := 0) Zc 0 rfl rfl) rfl rfl hl2.1 rfl (lv_room (Nat.le_of_ble_eq_true rfl)) dX0_firstShaded_10 ⟨Nat.le_of_ble_eq_true rfl, Nat.le_of_ble_eq_true rfl⟩) rfl rfl (fun r3 u1 H3 locs4 hw2 Z5 => ?_)
  clear Z
  have hw2 : r3 = 1 := hw2.trans (by decide)
  subst r3
  have Z6 : zz_S D A s [(b, .inr (0, [.ref tx, .ref st, .ref ct, .int 0, .int 0, .int 3, .int 0, .int 0, .int 10, .int 0, .int 0, .int 0, .int 0, .int 1]))] [] H3 locs4 := Z5
  clear Z5
  refine lv_if_eq (tgt := 18) hx hb dX0_firstShaded_13 (by decide) (fun h => absurd h (by decide)) (fun _ => ?_)
  refine lv_iload_n hx hb dX0_firstShaded_16 rfl (lv_at hl2 0 rfl) ?_
  exact zz_iret X hr hlk Z6 () rfl [0] [] (by decide +kernel) rfl rfl dX0_firstShaded_17

set_option maxHeartbeats 4000000 in
set_option maxRecDepth 100000 in
theorem c_shadedSet (l : Launch) (D : va_G) (b : Nat) (tx : Nat) (st : Nat) (ct : Nat)  : zz_MI l yX0_shadedSet wsX0_shadedSet 0 0 0 0 D [.ref b] [(b, .inr (0, [.ref tx, .ref st, .ref ct, .int 0, .int 0, .int 3, .int 0, .int 0, .int 10, .int 0, .int 0, .int 0, .int 0, .int 1]))] [] (fun (r : Int32) (u : Unit) => r = 0) (fun (u : Unit) => [(b, .inr (0, [.ref tx, .ref st, .ref ct, .int 0, .int 0, .int 3, .int 0, .int 0, .int 10, .int 0, .int 0, .int 0, .int 0, .int 1]))]) (fun (u : Unit) => []) := by
  intro sz
  refine Met.ofW (cc := cX0_shadedSet) (maxL := 3) (ret := (some .int)) (by decide) rfl ?_
  intro p e s m args below meth c s₁ B hml hv
  obtain ⟨rfl, hC⟩ := hv
  have hx := B.exec
  have hb := B.bytes
  have hr := B.returns
  have hts := atoms_spec (ws := wsX0_shadedSet) B.pre
  have hown : s.vm.findClass RX0 = some m.cls := findClass_of_methodNamed B.named
  have hlk := B.notSynchronized
  have X : CallFix p m c cX0_shadedSet 3 s _ wsX0_shadedSet RX0 := ⟨hx, hb, hml, hown, hts⟩
  have Z := zz_enter hC
  generalize va_A [(b, .inr (0, [.ref tx, .ref st, .ref ct, .int 0, .int 0, .int 3, .int 0, .int 0, .int 10, .int 0, .int 0, .int 0, .int 0, .int 1]))] sz = A at Z ⊢
  have hl := lv_entry ([.ref b]) (n := 3) (Nat.le_of_ble_eq_true rfl)
  rw [lg_entry_eq]
  generalize (lg_sl ([.ref b]) ++ List.replicate (3 - (lg_sl ([.ref b])).length) Slot.unset).toArray = ls at hl ⊢
  have hl : lv_has ls 3 [(0, .ref b)] := hl
  refine lv_iconst (v := 0) hx hb dX0_shadedSet_0 (by decide) ?_
  refine lv_istore_n (lv' := [(1, .int 0), (0, .ref b)]) hx hb dX0_shadedSet_1 rfl hl (by decide) rfl (fun ls1 hl2 => ?_)
  clear hl
  refine lv_iconst (v := 0) hx hb dX0_shadedSet_2 (by decide) ?_
  refine lv_istore_n (lv' := [(2, .int 0), (1, .int 0), (0, .ref b)]) hx hb dX0_shadedSet_3 rfl hl2 (by decide) rfl (fun ls3 hl4 => ?_)
  clear hl2
  refine lv_iload_n hx hb dX0_shadedSet_4 rfl (lv_at hl4 0 rfl) ?_
  refine lv_aload_n hx hb dX0_shadedSet_5 rfl (lv_at hl4 2 rfl) ?_
  refine zz_get X Z 0 rfl rfl (fun w h => List.mem_cons_of_mem _ (List.mem_append_left _ (List.mem_append_right _ h))) 3 rfl (zz_m 1 rfl) rfl dX0_shadedSet_6 ?_
  refine lv_icmp_ge (tgt := 40) hx hb dX0_shadedSet_9 (by decide) (fun _ => ?_) (fun h => absurd (by decide) h)
  refine lv_iload_n hx hb dX0_shadedSet_40 rfl (lv_at hl4 1 rfl) ?_
  exact zz_iret X hr hlk Z () rfl [0] [] (by decide +kernel) rfl rfl dX0_shadedSet_41

set_option maxHeartbeats 4000000 in
set_option maxRecDepth 100000 in
theorem c_allGoods (l : Launch) (D : va_G) (b : Nat) (tx : Nat) (st : Nat) (ct : Nat)  : zz_MI l yX0_allGoods wsX0_allGoods 0 0 0 0 D [.ref b] [(b, .inr (0, [.ref tx, .ref st, .ref ct, .int 0, .int 0, .int 3, .int 0, .int 0, .int 10, .int 0, .int 0, .int 0, .int 0, .int 1]))] [] (fun (r : Int32) (u : Unit) => r = 0) (fun (u : Unit) => [(b, .inr (0, [.ref tx, .ref st, .ref ct, .int 0, .int 0, .int 3, .int 0, .int 0, .int 10, .int 0, .int 0, .int 0, .int 0, .int 1]))]) (fun (u : Unit) => []) := by
  intro sz
  refine Met.ofW (cc := cX0_allGoods) (maxL := 3) (ret := (some .int)) (by decide) rfl ?_
  intro p e s m args below meth c s₁ B hml hv
  obtain ⟨rfl, hC⟩ := hv
  have hx := B.exec
  have hb := B.bytes
  have hr := B.returns
  have hts := atoms_spec (ws := wsX0_allGoods) B.pre
  have hown : s.vm.findClass RX0 = some m.cls := findClass_of_methodNamed B.named
  have hlk := B.notSynchronized
  have X : CallFix p m c cX0_allGoods 3 s _ wsX0_allGoods RX0 := ⟨hx, hb, hml, hown, hts⟩
  have Z := zz_enter hC
  generalize va_A [(b, .inr (0, [.ref tx, .ref st, .ref ct, .int 0, .int 0, .int 3, .int 0, .int 0, .int 10, .int 0, .int 0, .int 0, .int 0, .int 1]))] sz = A at Z ⊢
  have hl := lv_entry ([.ref b]) (n := 3) (Nat.le_of_ble_eq_true rfl)
  rw [lg_entry_eq]
  generalize (lg_sl ([.ref b]) ++ List.replicate (3 - (lg_sl ([.ref b])).length) Slot.unset).toArray = ls at hl ⊢
  have hl : lv_has ls 3 [(0, .ref b)] := hl
  refine lv_iconst (v := 0) hx hb dX0_allGoods_0 (by decide) ?_
  refine lv_istore_n (lv' := [(1, .int 0), (0, .ref b)]) hx hb dX0_allGoods_1 rfl hl (by decide) rfl (fun ls1 hl2 => ?_)
  clear hl
  refine lv_iconst (v := 0) hx hb dX0_allGoods_2 (by decide) ?_
  refine lv_istore_n (lv' := [(2, .int 0), (1, .int 0), (0, .ref b)]) hx hb dX0_allGoods_3 rfl hl2 (by decide) rfl (fun ls3 hl4 => ?_)
  clear hl2
  refine lv_iload_n hx hb dX0_allGoods_4 rfl (lv_at hl4 0 rfl) ?_
  refine lv_aload_n hx hb dX0_allGoods_5 rfl (lv_at hl4 2 rfl) ?_
  refine zz_get X Z 0 rfl rfl (fun w h => List.mem_cons_of_mem _ (List.mem_append_left _ (List.mem_append_right _ h))) 3 rfl (zz_m 1 rfl) rfl dX0_allGoods_6 ?_
  refine lv_icmp_ge (tgt := 30) hx hb dX0_allGoods_9 (by decide) (fun _ => ?_) (fun h => absurd (by decide) h)
  refine lv_iload_n hx hb dX0_allGoods_30 rfl (lv_at hl4 1 rfl) ?_
  exact zz_iret X hr hlk Z () rfl [0] [] (by decide +kernel) rfl rfl dX0_allGoods_31

set_option maxHeartbeats 4000000 in
set_option maxRecDepth 100000 in
theorem c_bitCount (l : Launch) (D : va_G)   : zz_MI l yJ6_bitCount_0f7a4 wsJ6_bitCount_0f7a4 0 0 0 0 D [.int 0] [] [] (fun (r : Int32) (u : Unit) => r = 0) (fun (u : Unit) => []) (fun (u : Unit) => []) := by
  intro sz
  refine Met.ofW (cc := cJ6_bitCount_0f7a4) (maxL := 1) (ret := (some .int)) (by decide) rfl ?_
  intro p e s m args below meth c s₁ B hml hv
  obtain ⟨rfl, hC⟩ := hv
  have hx := B.exec
  have hb := B.bytes
  have hr := B.returns
  have hts := atoms_spec (ws := wsJ6_bitCount_0f7a4) B.pre
  have hown : s.vm.findClass RJ6 = some m.cls := findClass_of_methodNamed B.named
  have hlk := B.notSynchronized
  have X : CallFix p m c cJ6_bitCount_0f7a4 1 s _ wsJ6_bitCount_0f7a4 RJ6 := ⟨hx, hb, hml, hown, hts⟩
  have Z := zz_enter hC
  generalize va_A [] sz = A at Z ⊢
  have hl := lv_entry ([.int 0]) (n := 1) (Nat.le_of_ble_eq_true rfl)
  rw [lg_entry_eq]
  generalize (lg_sl ([.int 0]) ++ List.replicate (1 - (lg_sl ([.int 0])).length) Slot.unset).toArray = ls at hl ⊢
  have hl : lv_has ls 1 [(0, .int 0)] := hl
  refine lv_iload_n hx hb dJ6_bitCount_0f7a4_0 rfl (lv_at hl 0 rfl) ?_
  refine lv_iload_n hx hb dJ6_bitCount_0f7a4_1 rfl (lv_at hl 0 rfl) ?_
  refine lv_iconst (v := 1) hx hb dJ6_bitCount_0f7a4_2 (by decide) ?_
  refine lv_iushr (v := 0) hx hb dJ6_bitCount_0f7a4_3 (by decide) ?_
  refine lv_ldcw (v := 1431655765) hx hb hown (hts _ (zz_m 1 rfl)) dJ6_bitCount_0f7a4_4 ?_
  refine lv_iand hx hb dJ6_bitCount_0f7a4_7 ?_
  refine zz_v (v := 0) (by decide) ?_
  refine lv_isub hx hb dJ6_bitCount_0f7a4_8 ?_
  refine zz_v (v := 0) (by decide) ?_
  refine lv_istore_n (lv' := [(0, .int 0)]) hx hb dJ6_bitCount_0f7a4_9 rfl hl (by decide) rfl (fun ls1 hl2 => ?_)
  clear hl
  refine lv_iload_n hx hb dJ6_bitCount_0f7a4_10 rfl (lv_at hl2 0 rfl) ?_
  refine lv_ldcw (v := 858993459) hx hb hown (hts _ (zz_m 2 rfl)) dJ6_bitCount_0f7a4_11 ?_
  refine lv_iand hx hb dJ6_bitCount_0f7a4_14 ?_
  refine zz_v (v := 0) (by decide) ?_
  refine lv_iload_n hx hb dJ6_bitCount_0f7a4_15 rfl (lv_at hl2 0 rfl) ?_
  refine lv_iconst (v := 2) hx hb dJ6_bitCount_0f7a4_16 (by decide) ?_
  refine lv_iushr (v := 0) hx hb dJ6_bitCount_0f7a4_17 (by decide) ?_
  refine lv_ldcw (v := 858993459) hx hb hown (hts _ (zz_m 2 rfl)) dJ6_bitCount_0f7a4_18 ?_
  refine lv_iand hx hb dJ6_bitCount_0f7a4_21 ?_
  refine zz_v (v := 0) (by decide) ?_
  refine lv_iadd hx hb dJ6_bitCount_0f7a4_22 ?_
  refine zz_v (v := 0) (by decide) ?_
  refine lv_istore_n (lv' := [(0, .int 0)]) hx hb dJ6_bitCount_0f7a4_23 rfl hl2 (by decide) rfl (fun ls3 hl4 => ?_)
  clear hl2
  refine lv_iload_n hx hb dJ6_bitCount_0f7a4_24 rfl (lv_at hl4 0 rfl) ?_
  refine lv_iload_n hx hb dJ6_bitCount_0f7a4_25 rfl (lv_at hl4 0 rfl) ?_
  refine lv_iconst (v := 4) hx hb dJ6_bitCount_0f7a4_26 (by decide) ?_
  refine lv_iushr (v := 0) hx hb dJ6_bitCount_0f7a4_27 (by decide) ?_
  refine lv_iadd hx hb dJ6_bitCount_0f7a4_28 ?_
  refine zz_v (v := 0) (by decide) ?_
  refine lv_ldcw (v := 252645135) hx hb hown (hts _ (zz_m 3 rfl)) dJ6_bitCount_0f7a4_29 ?_
  refine lv_iand hx hb dJ6_bitCount_0f7a4_32 ?_
  refine zz_v (v := 0) (by decide) ?_
  refine lv_istore_n (lv' := [(0, .int 0)]) hx hb dJ6_bitCount_0f7a4_33 rfl hl4 (by decide) rfl (fun ls5 hl6 => ?_)
  clear hl4
  refine lv_iload_n hx hb dJ6_bitCount_0f7a4_34 rfl (lv_at hl6 0 rfl) ?_
  refine lv_iload_n hx hb dJ6_bitCount_0f7a4_35 rfl (lv_at hl6 0 rfl) ?_
  refine lv_bipush (v := 8) hx hb dJ6_bitCount_0f7a4_36 (by decide) ?_
  refine lv_iushr (v := 0) hx hb dJ6_bitCount_0f7a4_38 (by decide) ?_
  refine lv_iadd hx hb dJ6_bitCount_0f7a4_39 ?_
  refine zz_v (v := 0) (by decide) ?_
  refine lv_istore_n (lv' := [(0, .int 0)]) hx hb dJ6_bitCount_0f7a4_40 rfl hl6 (by decide) rfl (fun ls7 hl8 => ?_)
  clear hl6
  refine lv_iload_n hx hb dJ6_bitCount_0f7a4_41 rfl (lv_at hl8 0 rfl) ?_
  refine lv_iload_n hx hb dJ6_bitCount_0f7a4_42 rfl (lv_at hl8 0 rfl) ?_
  refine lv_bipush (v := 16) hx hb dJ6_bitCount_0f7a4_43 (by decide) ?_
  refine lv_iushr (v := 0) hx hb dJ6_bitCount_0f7a4_45 (by decide) ?_
  refine lv_iadd hx hb dJ6_bitCount_0f7a4_46 ?_
  refine zz_v (v := 0) (by decide) ?_
  refine lv_istore_n (lv' := [(0, .int 0)]) hx hb dJ6_bitCount_0f7a4_47 rfl hl8 (by decide) rfl (fun ls9 hl10 => ?_)
  clear hl8
  refine lv_iload_n hx hb dJ6_bitCount_0f7a4_48 rfl (lv_at hl10 0 rfl) ?_
  refine lv_bipush (v := 63) hx hb dJ6_bitCount_0f7a4_49 (by decide) ?_
  refine lv_iand hx hb dJ6_bitCount_0f7a4_51 ?_
  refine zz_v (v := 0) (by decide) ?_
  exact zz_iret X hr hlk Z () rfl [] [] (by decide +kernel) rfl rfl dJ6_bitCount_0f7a4_52

set_option maxHeartbeats 4000000 in
set_option maxRecDepth 100000 in
theorem c6_cloth (l : Launch) (D : va_G) (x : Nat) (tx0 : Nat) (nb : Nat) (tb : Nat) (ib : Nat) (ah : Nat) (tp : Nat) (rd : Nat) (sh : Nat) (sl : Nat) (wt : Nat) (ntx : Nat) (nst : Nat) (nct : Nat) (what : Int32)  : zz_MI l yX6_cloth wsX6_cloth 4 85 0 0 D [.ref x, .int what] [(x, .inr (6, [.ref tx0, .ref nb, .ref tb, .ref ib, .ref ah, .ref tp, .ref rd, .ref sh, .ref sl, .ref wt, .int 0, .int 0, .int 0, .int 0, .int 0])), (nb, .inr (0, [.ref ntx, .ref nst, .ref nct, .int 0, .int 0, .int 3, .int 0, .int 0, .int 10, .int 0, .int 0, .int 0, .int 0, .int 1]))] [] (fun (r : Int32) (u : Unit) => r = sp_cloth what) (fun (u : Unit) => []) (fun (u : Unit) => []) := by
  intro sz
  refine Met.ofW (cc := cX6_cloth) (maxL := 2) (ret := (some .int)) (by decide) rfl ?_
  intro p e s m args below meth c s₁ B hml hv
  obtain ⟨rfl, hC⟩ := hv
  have hx := B.exec
  have hb := B.bytes
  have hr := B.returns
  have hts := atoms_spec (ws := wsX6_cloth) B.pre
  have hown : s.vm.findClass RX6 = some m.cls := findClass_of_methodNamed B.named
  have hlk := B.notSynchronized
  have X : CallFix p m c cX6_cloth 2 s _ wsX6_cloth RX6 := ⟨hx, hb, hml, hown, hts⟩
  have Z := zz_enter hC
  generalize va_A [(x, .inr (6, [.ref tx0, .ref nb, .ref tb, .ref ib, .ref ah, .ref tp, .ref rd, .ref sh, .ref sl, .ref wt, .int 0, .int 0, .int 0, .int 0, .int 0])), (nb, .inr (0, [.ref ntx, .ref nst, .ref nct, .int 0, .int 0, .int 3, .int 0, .int 0, .int 10, .int 0, .int 0, .int 0, .int 0, .int 1]))] sz = A at Z ⊢
  have hl := lv_entry ([.ref x, .int what]) (n := 2) (Nat.le_of_ble_eq_true rfl)
  rw [lg_entry_eq]
  generalize (lg_sl ([.ref x, .int what]) ++ List.replicate (2 - (lg_sl ([.ref x, .int what])).length) Slot.unset).toArray = ls at hl ⊢
  have hl : lv_has ls 2 [(0, .ref x), (1, .int what)] := hl
  refine lv_iload_n hx hb dX6_cloth_0 rfl (lv_at hl 1 rfl) ?_
  rcases zz_sw 6 what with s1 | ⟨j, hj, s1⟩
  · refine lv_tableOut (tgt := 100) hx hb dX6_cloth_1 s1 (by decide) ?_
    refine lv_ldc (v := (-1000000001)) hx hb hown (hts _ (zz_m 6 rfl)) dX6_cloth_100 ?_
    exact zz_iret X hr hlk Z () (if_pos s1).symm [] [] (by decide +kernel) rfl rfl dX6_cloth_102
  · rcases (show j = 0 ∨ j = 1 ∨ j = 2 ∨ j = 3 ∨ j = 4 ∨ j = 5 ∨ j = 6 by omega) with rfl | rfl | rfl | rfl | rfl | rfl | rfl
    · have s1 : what = 0 := s1
      subst s1
      refine lv_tableIn (x := 0) (off := 43) (tgt := 44) hx hb dX6_cloth_1 (by decide) (by decide) rfl (by decide) ?_
      refine lv_aload_n hx hb dX6_cloth_44 rfl (lv_at hl 0 rfl) ?_
      refine zz_get X Z 0 rfl rfl (fun w h => List.mem_cons_of_mem _ (List.mem_append_left _ (List.mem_append_left _ (List.mem_append_right _ h)))) 1 rfl (zz_m 1 rfl) rfl dX6_cloth_45 ?_
      refine zz_get X Z 1 rfl rfl (fun w h => List.mem_cons_of_mem _ (List.mem_append_left _ (List.mem_append_right _ h))) 6 rfl (zz_m 2 rfl) rfl dX6_cloth_48 ?_
      exact zz_iret X hr hlk Z () (by decide) [] [] (by decide +kernel) rfl rfl dX6_cloth_51
    · have s1 : what = 1 := s1
      subst s1
      refine lv_tableIn (x := 1) (off := 51) (tgt := 52) hx hb dX6_cloth_1 (by decide) (by decide) rfl (by decide) ?_
      refine lv_aload_n hx hb dX6_cloth_52 rfl (lv_at hl 0 rfl) ?_
      refine zz_get X Z 0 rfl rfl (fun w h => List.mem_cons_of_mem _ (List.mem_append_left _ (List.mem_append_left _ (List.mem_append_right _ h)))) 1 rfl (zz_m 1 rfl) rfl dX6_cloth_53 ?_
      refine zz_get X Z 1 rfl rfl (fun w h => List.mem_cons_of_mem _ (List.mem_append_left _ (List.mem_append_right _ h))) 5 rfl (zz_m 3 rfl) rfl dX6_cloth_56 ?_
      exact zz_iret X hr hlk Z () (by decide) [] [] (by decide +kernel) rfl rfl dX6_cloth_59
    · have s1 : what = 2 := s1
      subst s1
      refine lv_tableIn (x := 2) (off := 59) (tgt := 60) hx hb dX6_cloth_1 (by decide) (by decide) rfl (by decide) ?_
      refine lv_aload_n hx hb dX6_cloth_60 rfl (lv_at hl 0 rfl) ?_
      refine zz_get X Z 0 rfl rfl (fun w h => List.mem_cons_of_mem _ (List.mem_append_left _ (List.mem_append_left _ (List.mem_append_right _ h)))) 1 rfl (zz_m 1 rfl) rfl dX6_cloth_61 ?_
      refine zz_get X Z 1 rfl rfl (fun w h => List.mem_cons_of_mem _ (List.mem_append_left _ (List.mem_append_right _ h))) 8 rfl (zz_m 4 rfl) rfl dX6_cloth_64 ?_
      exact zz_iret X hr hlk Z () (by decide) [] [] (by decide +kernel) rfl rfl dX6_cloth_67
    · have s1 : what = 3 := s1
      subst s1
      refine lv_tableIn (x := 3) (off := 67) (tgt := 68) hx hb dX6_cloth_1 (by decide) (by decide) rfl (by decide) ?_
      refine lv_aload_n hx hb dX6_cloth_68 rfl (lv_at hl 0 rfl) ?_
      refine zz_get X Z 0 rfl rfl (fun w h => List.mem_cons_of_mem _ (List.mem_append_left _ (List.mem_append_left _ (List.mem_append_right _ h)))) 1 rfl (zz_m 1 rfl) rfl dX6_cloth_69 ?_
      refine zz_get X Z 1 rfl rfl (fun w h => List.mem_cons_of_mem _ (List.mem_append_left _ (List.mem_append_right _ h))) 9 rfl (zz_m 5 rfl) rfl dX6_cloth_72 ?_
      exact zz_iret X hr hlk Z () (by decide) [] [] (by decide +kernel) rfl rfl dX6_cloth_75
    · have s1 : what = 4 := s1
      subst s1
      refine lv_tableIn (x := 4) (off := 75) (tgt := 76) hx hb dX6_cloth_1 (by decide) (by decide) rfl (by decide) ?_
      refine lv_aload_n hx hb dX6_cloth_76 rfl (lv_at hl 0 rfl) ?_
      refine zz_get X Z 0 rfl rfl (fun w h => List.mem_cons_of_mem _ (List.mem_append_left _ (List.mem_append_left _ (List.mem_append_right _ h)))) 1 rfl (zz_m 1 rfl) rfl dX6_cloth_77 ?_
      refine zz_ci (WC := [(nb, .inr (0, [.ref ntx, .ref nst, .ref nct, .int 0, .int 0, .int 3, .int 0, .int 0, .int 10, .int 0, .int 0, .int 0, .int 0, .int 1]))]) (TC := []) (WR := [(x, .inr (6, [.ref tx0, .ref nb, .ref tb, .ref ib, .ref ah, .ref tp, .ref rd, .ref sh, .ref sl, .ref wt, .int 0, .int 0, .int 0, .int 0, .int 0]))]) (TR := []) (k := 0) (n := 0) Z [1] [0] [] [] rfl rfl (by decide +kernel) (by decide +kernel) (by decide +kernel) rfl rfl (fun Zc => va_runV (As := []) (rest := []) X (c_heat l D nb ntx nst nct s.heap.size) (cwV 0 hts gX6_cloth_X0_heat rfl rfl rfl ⟨rfl, zh_X0_heat⟩ ⟨Nat.le_of_ble_eq_true rfl, Nat.le_of_ble_eq_true rfl⟩) (zz_pV (ci := 0) Zc 0 rfl rfl) rfl rfl hl.1 rfl (lv_room (Nat.le_of_ble_eq_true rfl)) dX6_cloth_80 ⟨Nat.le_of_ble_eq_true rfl, Nat.le_of_ble_eq_true rfl⟩) rfl rfl (fun r4 u2 H1 locs2 hw3 Z3 => ?_)
      clear Z
      have hw3 : r4 = 20 := hw3.trans (by decide)
      subst r4
      have Z4 : zz_S D A s [(x, .inr (6, [.ref tx0, .ref nb, .ref tb, .ref ib, .ref ah, .ref tp, .ref rd, .ref sh, .ref sl, .ref wt, .int 0, .int 0, .int 0, .int 0, .int 0])), (nb, .inr (0, [.ref ntx, .ref nst, .ref nct, .int 0, .int 0, .int 3, .int 0, .int 0, .int 10, .int 0, .int 0, .int 0, .int 0, .int 1]))] [] H1 locs2 := Z3
      clear Z3
      exact zz_iret X hr hlk Z4 () (by decide) [] [] (by decide +kernel) rfl rfl dX6_cloth_83
    · have s1 : what = 5 := s1
      subst s1
      refine lv_tableIn (x := 5) (off := 83) (tgt := 84) hx hb dX6_cloth_1 (by decide) (by decide) rfl (by decide) ?_
      refine lv_aload_n hx hb dX6_cloth_84 rfl (lv_at hl 0 rfl) ?_
      refine zz_get X Z 0 rfl rfl (fun w h => List.mem_cons_of_mem _ (List.mem_append_left _ (List.mem_append_left _ (List.mem_append_right _ h)))) 1 rfl (zz_m 1 rfl) rfl dX6_cloth_85 ?_
      refine zz_ci (WC := [(nb, .inr (0, [.ref ntx, .ref nst, .ref nct, .int 0, .int 0, .int 3, .int 0, .int 0, .int 10, .int 0, .int 0, .int 0, .int 0, .int 1]))]) (TC := []) (WR := [(x, .inr (6, [.ref tx0, .ref nb, .ref tb, .ref ib, .ref ah, .ref tp, .ref rd, .ref sh, .ref sl, .ref wt, .int 0, .int 0, .int 0, .int 0, .int 0]))]) (TR := []) (k := 0) (n := 0) Z [1] [0] [] [] rfl rfl (by decide +kernel) (by decide +kernel) (by decide +kernel) rfl rfl (fun Zc => va_runV (As := []) (rest := []) X (c_firstShaded l D nb ntx nst nct s.heap.size) (cwV 0 hts gX6_cloth_X0_firstShaded rfl rfl rfl ⟨rfl, zh_X0_firstShaded⟩ ⟨Nat.le_of_ble_eq_true rfl, Nat.le_of_ble_eq_true rfl⟩) (zz_pV (ci := 0) Zc 0 rfl rfl) rfl rfl hl.1 rfl (lv_room (Nat.le_of_ble_eq_true rfl)) dX6_cloth_88 ⟨Nat.le_of_ble_eq_true rfl, Nat.le_of_ble_eq_true rfl⟩) rfl rfl (fun r7 u5 H5 locs6 hw6 Z7 => ?_)
      clear Z
      have hw6 : r7 = 0 := hw6.trans (by decide)
      subst r7
      have Z8 : zz_S D A s [(x, .inr (6, [.ref tx0, .ref nb, .ref tb, .ref ib, .ref ah, .ref tp, .ref rd, .ref sh, .ref sl, .ref wt, .int 0, .int 0, .int 0, .int 0, .int 0])), (nb, .inr (0, [.ref ntx, .ref nst, .ref nct, .int 0, .int 0, .int 3, .int 0, .int 0, .int 10, .int 0, .int 0, .int 0, .int 0, .int 1]))] [] H5 locs6 := Z7
      clear Z7
      exact zz_iret X hr hlk Z8 () (by decide) [] [] (by decide +kernel) rfl rfl dX6_cloth_91
    · have s1 : what = 6 := s1
      subst s1
      refine lv_tableIn (x := 6) (off := 91) (tgt := 92) hx hb dX6_cloth_1 (by decide) (by decide) rfl (by decide) ?_
      refine lv_aload_n hx hb dX6_cloth_92 rfl (lv_at hl 0 rfl) ?_
      refine zz_get X Z 0 rfl rfl (fun w h => List.mem_cons_of_mem _ (List.mem_append_left _ (List.mem_append_left _ (List.mem_append_right _ h)))) 1 rfl (zz_m 1 rfl) rfl dX6_cloth_93 ?_
      refine zz_ci (WC := [(nb, .inr (0, [.ref ntx, .ref nst, .ref nct, .int 0, .int 0, .int 3, .int 0, .int 0, .int 10, .int 0, .int 0, .int 0, .int 0, .int 1]))]) (TC := []) (WR := [(x, .inr (6, [.ref tx0, .ref nb, .ref tb, .ref ib, .ref ah, .ref tp, .ref rd, .ref sh, .ref sl, .ref wt, .int 0, .int 0, .int 0, .int 0, .int 0]))]) (TR := []) (k := 0) (n := 0) Z [1] [0] [] [] rfl rfl (by decide +kernel) (by decide +kernel) (by decide +kernel) rfl rfl (fun Zc => va_runV (As := []) (rest := []) X (c_shadedSet l D nb ntx nst nct s.heap.size) (cwV 0 hts gX6_cloth_X0_shadedSet rfl rfl rfl ⟨rfl, zh_X0_shadedSet⟩ ⟨Nat.le_of_ble_eq_true rfl, Nat.le_of_ble_eq_true rfl⟩) (zz_pV (ci := 0) Zc 0 rfl rfl) rfl rfl hl.1 rfl (lv_room (Nat.le_of_ble_eq_true rfl)) dX6_cloth_96 ⟨Nat.le_of_ble_eq_true rfl, Nat.le_of_ble_eq_true rfl⟩) rfl rfl (fun r10 u8 H9 locs10 hw9 Z11 => ?_)
      clear Z
      have hw9 : r10 = 0 := hw9.trans (by decide)
      subst r10
      have Z12 : zz_S D A s [(x, .inr (6, [.ref tx0, .ref nb, .ref tb, .ref ib, .ref ah, .ref tp, .ref rd, .ref sh, .ref sl, .ref wt, .int 0, .int 0, .int 0, .int 0, .int 0])), (nb, .inr (0, [.ref ntx, .ref nst, .ref nct, .int 0, .int 0, .int 3, .int 0, .int 0, .int 10, .int 0, .int 0, .int 0, .int 0, .int 1]))] [] H9 locs10 := Z11
      clear Z11
      exact zz_iret X hr hlk Z12 () (by decide) [] [] (by decide +kernel) rfl rfl dX6_cloth_99

set_option maxHeartbeats 4000000 in
set_option maxRecDepth 100000 in
theorem c6_book (l : Launch) (D : va_G) (x : Nat) (tx0 : Nat) (nb : Nat) (tb : Nat) (ib : Nat) (ah : Nat) (tp : Nat) (rd : Nat) (sh : Nat) (sl : Nat) (wt : Nat) (ntx : Nat) (nst : Nat) (nct : Nat) (what : Int32)  : zz_MI l yX6_book wsX6_book 1 22 0 0 D [.ref x, .int what] [(x, .inr (6, [.ref tx0, .ref nb, .ref tb, .ref ib, .ref ah, .ref tp, .ref rd, .ref sh, .ref sl, .ref wt, .int 0, .int 0, .int 0, .int 0, .int 0])), (nb, .inr (0, [.ref ntx, .ref nst, .ref nct, .int 0, .int 0, .int 3, .int 0, .int 0, .int 10, .int 0, .int 0, .int 0, .int 0, .int 1]))] [] (fun (r : Int32) (u : Unit) => r = sp_book what) (fun (u : Unit) => []) (fun (u : Unit) => []) := by
  intro sz
  refine Met.ofW (cc := cX6_book) (maxL := 2) (ret := (some .int)) (by decide) rfl ?_
  intro p e s m args below meth c s₁ B hml hv
  obtain ⟨rfl, hC⟩ := hv
  have hx := B.exec
  have hb := B.bytes
  have hr := B.returns
  have hts := atoms_spec (ws := wsX6_book) B.pre
  have hown : s.vm.findClass RX6 = some m.cls := findClass_of_methodNamed B.named
  have hlk := B.notSynchronized
  have X : CallFix p m c cX6_book 2 s _ wsX6_book RX6 := ⟨hx, hb, hml, hown, hts⟩
  have Z := zz_enter hC
  generalize va_A [(x, .inr (6, [.ref tx0, .ref nb, .ref tb, .ref ib, .ref ah, .ref tp, .ref rd, .ref sh, .ref sl, .ref wt, .int 0, .int 0, .int 0, .int 0, .int 0])), (nb, .inr (0, [.ref ntx, .ref nst, .ref nct, .int 0, .int 0, .int 3, .int 0, .int 0, .int 10, .int 0, .int 0, .int 0, .int 0, .int 1]))] sz = A at Z ⊢
  have hl := lv_entry ([.ref x, .int what]) (n := 2) (Nat.le_of_ble_eq_true rfl)
  rw [lg_entry_eq]
  generalize (lg_sl ([.ref x, .int what]) ++ List.replicate (2 - (lg_sl ([.ref x, .int what])).length) Slot.unset).toArray = ls at hl ⊢
  have hl : lv_has ls 2 [(0, .ref x), (1, .int what)] := hl
  refine lv_iload_n hx hb dX6_book_0 rfl (lv_at hl 1 rfl) ?_
  rcases zz_sw 3 what with s1 | ⟨j, hj, s1⟩
  · refine lv_tableOut (tgt := 64) hx hb dX6_book_1 s1 (by decide) ?_
    refine lv_ldc (v := (-1000000001)) hx hb hown (hts _ (zz_m 5 rfl)) dX6_book_64 ?_
    exact zz_iret X hr hlk Z () (if_pos s1).symm [] [] (by decide +kernel) rfl rfl dX6_book_66
  · rcases (show j = 0 ∨ j = 1 ∨ j = 2 ∨ j = 3 by omega) with rfl | rfl | rfl | rfl
    · have s1 : what = 0 := s1
      subst s1
      refine lv_tableIn (x := 0) (off := 31) (tgt := 32) hx hb dX6_book_1 (by decide) (by decide) rfl (by decide) ?_
      refine lv_aload_n hx hb dX6_book_32 rfl (lv_at hl 0 rfl) ?_
      refine zz_get X Z 0 rfl rfl (fun w h => List.mem_cons_of_mem _ (List.mem_append_left _ (List.mem_append_left _ (List.mem_append_right _ h)))) 1 rfl (zz_m 1 rfl) rfl dX6_book_33 ?_
      refine zz_get X Z 1 rfl rfl (fun w h => List.mem_cons_of_mem _ (List.mem_append_left _ (List.mem_append_right _ h))) 11 rfl (zz_m 2 rfl) rfl dX6_book_36 ?_
      exact zz_iret X hr hlk Z () (by decide) [] [] (by decide +kernel) rfl rfl dX6_book_39
    · have s1 : what = 1 := s1
      subst s1
      refine lv_tableIn (x := 1) (off := 39) (tgt := 40) hx hb dX6_book_1 (by decide) (by decide) rfl (by decide) ?_
      refine lv_aload_n hx hb dX6_book_40 rfl (lv_at hl 0 rfl) ?_
      refine zz_get X Z 0 rfl rfl (fun w h => List.mem_cons_of_mem _ (List.mem_append_left _ (List.mem_append_left _ (List.mem_append_right _ h)))) 1 rfl (zz_m 1 rfl) rfl dX6_book_41 ?_
      refine zz_get X Z 1 rfl rfl (fun w h => List.mem_cons_of_mem _ (List.mem_append_left _ (List.mem_append_right _ h))) 10 rfl (zz_m 3 rfl) rfl dX6_book_44 ?_
      exact zz_iret X hr hlk Z () (by decide) [] [] (by decide +kernel) rfl rfl dX6_book_47
    · have s1 : what = 2 := s1
      subst s1
      refine lv_tableIn (x := 2) (off := 47) (tgt := 48) hx hb dX6_book_1 (by decide) (by decide) rfl (by decide) ?_
      refine lv_aload_n hx hb dX6_book_48 rfl (lv_at hl 0 rfl) ?_
      refine zz_get X Z 0 rfl rfl (fun w h => List.mem_cons_of_mem _ (List.mem_append_left _ (List.mem_append_left _ (List.mem_append_right _ h)))) 1 rfl (zz_m 1 rfl) rfl dX6_book_49 ?_
      refine zz_get X Z 1 rfl rfl (fun w h => List.mem_cons_of_mem _ (List.mem_append_left _ (List.mem_append_right _ h))) 12 rfl (zz_m 4 rfl) rfl dX6_book_52 ?_
      exact zz_iret X hr hlk Z () (by decide) [] [] (by decide +kernel) rfl rfl dX6_book_55
    · have s1 : what = 3 := s1
      subst s1
      refine lv_tableIn (x := 3) (off := 55) (tgt := 56) hx hb dX6_book_1 (by decide) (by decide) rfl (by decide) ?_
      refine lv_aload_n hx hb dX6_book_56 rfl (lv_at hl 0 rfl) ?_
      refine zz_get X Z 0 rfl rfl (fun w h => List.mem_cons_of_mem _ (List.mem_append_left _ (List.mem_append_left _ (List.mem_append_right _ h)))) 1 rfl (zz_m 1 rfl) rfl dX6_book_57 ?_
      refine zz_ci (WC := [(nb, .inr (0, [.ref ntx, .ref nst, .ref nct, .int 0, .int 0, .int 3, .int 0, .int 0, .int 10, .int 0, .int 0, .int 0, .int 0, .int 1]))]) (TC := []) (WR := [(x, .inr (6, [.ref tx0, .ref nb, .ref tb, .ref ib, .ref ah, .ref tp, .ref rd, .ref sh, .ref sl, .ref wt, .int 0, .int 0, .int 0, .int 0, .int 0]))]) (TR := []) (k := 0) (n := 0) Z [1] [0] [] [] rfl rfl (by decide +kernel) (by decide +kernel) (by decide +kernel) rfl rfl (fun Zc => va_runV (As := []) (rest := []) X (c_allGoods l D nb ntx nst nct s.heap.size) (cwV 0 hts gX6_book_X0_allGoods rfl rfl rfl ⟨rfl, zh_X0_allGoods⟩ ⟨Nat.le_of_ble_eq_true rfl, Nat.le_of_ble_eq_true rfl⟩) (zz_pV (ci := 0) Zc 0 rfl rfl) rfl rfl hl.1 rfl (lv_room (Nat.le_of_ble_eq_true rfl)) dX6_book_60 ⟨Nat.le_of_ble_eq_true rfl, Nat.le_of_ble_eq_true rfl⟩) rfl rfl (fun r4 u2 H1 locs2 hw3 Z3 => ?_)
      clear Z
      have hw3 : r4 = 0 := hw3.trans (by decide)
      subst r4
      have Z4 : zz_S D A s [(x, .inr (6, [.ref tx0, .ref nb, .ref tb, .ref ib, .ref ah, .ref tp, .ref rd, .ref sh, .ref sl, .ref wt, .int 0, .int 0, .int 0, .int 0, .int 0])), (nb, .inr (0, [.ref ntx, .ref nst, .ref nct, .int 0, .int 0, .int 3, .int 0, .int 0, .int 10, .int 0, .int 0, .int 0, .int 0, .int 1]))] [] H1 locs2 := Z3
      clear Z3
      exact zz_iret X hr hlk Z4 () (by decide) [] [] (by decide +kernel) rfl rfl dX6_book_63

set_option maxHeartbeats 4000000 in
set_option maxRecDepth 100000 in
theorem c6_count (l : Launch) (D : va_G) (x : Nat) (tx0 : Nat) (nb : Nat) (tb : Nat) (ib : Nat) (ah : Nat) (tp : Nat) (rd : Nat) (sh : Nat) (sl : Nat) (wt : Nat) (ntx : Nat) (nst : Nat) (nct : Nat) (what : Int32)  : zz_MI l yX6_count wsX6_count 1 22 0 0 D [.ref x, .int what] [(x, .inr (6, [.ref tx0, .ref nb, .ref tb, .ref ib, .ref ah, .ref tp, .ref rd, .ref sh, .ref sl, .ref wt, .int 0, .int 0, .int 0, .int 0, .int 0])), (nb, .inr (0, [.ref ntx, .ref nst, .ref nct, .int 0, .int 0, .int 3, .int 0, .int 0, .int 10, .int 0, .int 0, .int 0, .int 0, .int 1]))] [] (fun (r : Int32) (u : Unit) => r = sp_count what) (fun (u : Unit) => []) (fun (u : Unit) => []) := by
  intro sz
  refine Met.ofW (cc := cX6_count) (maxL := 2) (ret := (some .int)) (by decide) rfl ?_
  intro p e s m args below meth c s₁ B hml hv
  obtain ⟨rfl, hC⟩ := hv
  have hx := B.exec
  have hb := B.bytes
  have hr := B.returns
  have hts := atoms_spec (ws := wsX6_count) B.pre
  have hown : s.vm.findClass RX6 = some m.cls := findClass_of_methodNamed B.named
  have hlk := B.notSynchronized
  have X : CallFix p m c cX6_count 2 s _ wsX6_count RX6 := ⟨hx, hb, hml, hown, hts⟩
  have Z := zz_enter hC
  generalize va_A [(x, .inr (6, [.ref tx0, .ref nb, .ref tb, .ref ib, .ref ah, .ref tp, .ref rd, .ref sh, .ref sl, .ref wt, .int 0, .int 0, .int 0, .int 0, .int 0])), (nb, .inr (0, [.ref ntx, .ref nst, .ref nct, .int 0, .int 0, .int 3, .int 0, .int 0, .int 10, .int 0, .int 0, .int 0, .int 0, .int 1]))] sz = A at Z ⊢
  have hl := lv_entry ([.ref x, .int what]) (n := 2) (Nat.le_of_ble_eq_true rfl)
  rw [lg_entry_eq]
  generalize (lg_sl ([.ref x, .int what]) ++ List.replicate (2 - (lg_sl ([.ref x, .int what])).length) Slot.unset).toArray = ls at hl ⊢
  have hl : lv_has ls 2 [(0, .ref x), (1, .int what)] := hl
  refine lv_iload_n hx hb dX6_count_0 rfl (lv_at hl 1 rfl) ?_
  rcases zz_sw 6 what with s1 | ⟨j, hj, s1⟩
  · refine lv_tableOut (tgt := 97) hx hb dX6_count_1 s1 (by decide) ?_
    refine lv_ldc (v := (-1000000001)) hx hb hown (hts _ (zz_m 8 rfl)) dX6_count_97 ?_
    exact zz_iret X hr hlk Z () (if_pos s1).symm [] [] (by decide +kernel) rfl rfl dX6_count_99
  · rcases (show j = 0 ∨ j = 1 ∨ j = 2 ∨ j = 3 ∨ j = 4 ∨ j = 5 ∨ j = 6 by omega) with rfl | rfl | rfl | rfl | rfl | rfl | rfl
    · have s1 : what = 0 := s1
      subst s1
      refine lv_tableIn (x := 0) (off := 43) (tgt := 44) hx hb dX6_count_1 (by decide) (by decide) rfl (by decide) ?_
      refine lv_aload_n hx hb dX6_count_44 rfl (lv_at hl 0 rfl) ?_
      refine zz_get X Z 0 rfl rfl (fun w h => List.mem_cons_of_mem _ (List.mem_append_left _ (List.mem_append_left _ (List.mem_append_right _ h)))) 1 rfl (zz_m 1 rfl) rfl dX6_count_45 ?_
      refine zz_get X Z 1 rfl rfl (fun w h => List.mem_cons_of_mem _ (List.mem_append_left _ (List.mem_append_right _ h))) 3 rfl (zz_m 2 rfl) rfl dX6_count_48 ?_
      exact zz_iret X hr hlk Z () (by decide) [] [] (by decide +kernel) rfl rfl dX6_count_51
    · have s1 : what = 1 := s1
      subst s1
      refine lv_tableIn (x := 1) (off := 51) (tgt := 52) hx hb dX6_count_1 (by decide) (by decide) rfl (by decide) ?_
      refine lv_aload_n hx hb dX6_count_52 rfl (lv_at hl 0 rfl) ?_
      refine zz_get X Z 0 rfl rfl (fun w h => List.mem_cons_of_mem _ (List.mem_append_left _ (List.mem_append_left _ (List.mem_append_right _ h)))) 1 rfl (zz_m 1 rfl) rfl dX6_count_53 ?_
      refine zz_get X Z 1 rfl rfl (fun w h => List.mem_cons_of_mem _ (List.mem_append_left _ (List.mem_append_right _ h))) 7 rfl (zz_m 3 rfl) rfl dX6_count_56 ?_
      exact zz_iret X hr hlk Z () (by decide) [] [] (by decide +kernel) rfl rfl dX6_count_59
    · have s1 : what = 2 := s1
      subst s1
      refine lv_tableIn (x := 2) (off := 59) (tgt := 60) hx hb dX6_count_1 (by decide) (by decide) rfl (by decide) ?_
      refine lv_aload_n hx hb dX6_count_60 rfl (lv_at hl 0 rfl) ?_
      refine zz_get X Z 0 rfl rfl (fun w h => List.mem_cons_of_mem _ (List.mem_append_left _ (List.mem_append_left _ (List.mem_append_right _ h)))) 1 rfl (zz_m 1 rfl) rfl dX6_count_61 ?_
      refine zz_ci (WC := [(nb, .inr (0, [.ref ntx, .ref nst, .ref nct, .int 0, .int 0, .int 3, .int 0, .int 0, .int 10, .int 0, .int 0, .int 0, .int 0, .int 1]))]) (TC := []) (WR := [(x, .inr (6, [.ref tx0, .ref nb, .ref tb, .ref ib, .ref ah, .ref tp, .ref rd, .ref sh, .ref sl, .ref wt, .int 0, .int 0, .int 0, .int 0, .int 0]))]) (TR := []) (k := 0) (n := 0) Z [1] [0] [] [] rfl rfl (by decide +kernel) (by decide +kernel) (by decide +kernel) rfl rfl (fun Zc => va_runV (As := []) (rest := []) X (c_shadedSet l D nb ntx nst nct s.heap.size) (cwV 0 hts gX6_count_X0_shadedSet rfl rfl rfl ⟨rfl, zh_X0_shadedSet⟩ ⟨Nat.le_of_ble_eq_true rfl, Nat.le_of_ble_eq_true rfl⟩) (zz_pV (ci := 0) Zc 0 rfl rfl) rfl rfl hl.1 rfl (lv_room (Nat.le_of_ble_eq_true rfl)) dX6_count_64 ⟨Nat.le_of_ble_eq_true rfl, Nat.le_of_ble_eq_true rfl⟩) rfl rfl (fun r4 u2 H1 locs2 hw3 Z3 => ?_)
      clear Z
      have hw3 : r4 = 0 := hw3.trans (by decide)
      subst r4
      have Z4 : zz_S D A s [(x, .inr (6, [.ref tx0, .ref nb, .ref tb, .ref ib, .ref ah, .ref tp, .ref rd, .ref sh, .ref sl, .ref wt, .int 0, .int 0, .int 0, .int 0, .int 0])), (nb, .inr (0, [.ref ntx, .ref nst, .ref nct, .int 0, .int 0, .int 3, .int 0, .int 0, .int 10, .int 0, .int 0, .int 0, .int 0, .int 1]))] [] H1 locs2 := Z3
      clear Z3
      refine zz_ci (WC := []) (TC := []) (WR := [(x, .inr (6, [.ref tx0, .ref nb, .ref tb, .ref ib, .ref ah, .ref tp, .ref rd, .ref sh, .ref sl, .ref wt, .int 0, .int 0, .int 0, .int 0, .int 0])), (nb, .inr (0, [.ref ntx, .ref nst, .ref nct, .int 0, .int 0, .int 3, .int 0, .int 0, .int 10, .int 0, .int 0, .int 0, .int 0, .int 1]))]) (TR := []) (k := 0) (n := 0) Z4 [] [0, 1] [] [] rfl rfl (by decide +kernel) (by decide +kernel) (by decide +kernel) rfl rfl (fun Zc => va_runS (As := [.int 0]) (rest := []) X (c_bitCount l D  H1.size) (va_cwS 1 hts gX6_count_J6_bitCount_0f7a4 rfl rfl rfl zh_J6_bitCount_0f7a4 ⟨Nat.le_of_ble_eq_true rfl, Nat.le_of_ble_eq_true rfl⟩) (zz_pS Zc) rfl rfl hl.1 rfl (lv_room (Nat.le_of_ble_eq_true rfl)) dX6_count_67 ⟨Nat.le_of_ble_eq_true rfl, Nat.le_of_ble_eq_true rfl⟩) rfl rfl (fun r7 u5 H5 locs6 hw6 Z7 => ?_)
      clear Z4
      have hw6 : r7 = 0 := hw6.trans (by decide)
      subst r7
      have Z8 : zz_S D A s [(x, .inr (6, [.ref tx0, .ref nb, .ref tb, .ref ib, .ref ah, .ref tp, .ref rd, .ref sh, .ref sl, .ref wt, .int 0, .int 0, .int 0, .int 0, .int 0])), (nb, .inr (0, [.ref ntx, .ref nst, .ref nct, .int 0, .int 0, .int 3, .int 0, .int 0, .int 10, .int 0, .int 0, .int 0, .int 0, .int 1]))] [] H5 locs6 := Z7
      clear Z7
      exact zz_iret X hr hlk Z8 () (by decide) [] [] (by decide +kernel) rfl rfl dX6_count_70
    · have s1 : what = 3 := s1
      subst s1
      refine lv_tableIn (x := 3) (off := 70) (tgt := 71) hx hb dX6_count_1 (by decide) (by decide) rfl (by decide) ?_
      refine lv_aload_n hx hb dX6_count_71 rfl (lv_at hl 0 rfl) ?_
      refine zz_get X Z 0 rfl rfl (fun w h => List.mem_cons_of_mem _ (List.mem_append_left _ (List.mem_append_left _ (List.mem_append_right _ h)))) 1 rfl (zz_m 1 rfl) rfl dX6_count_72 ?_
      refine zz_get X Z 1 rfl rfl (fun w h => List.mem_cons_of_mem _ (List.mem_append_left _ (List.mem_append_right _ h))) 4 rfl (zz_m 4 rfl) rfl dX6_count_75 ?_
      exact zz_iret X hr hlk Z () (by decide) [] [] (by decide +kernel) rfl rfl dX6_count_78
    · have s1 : what = 4 := s1
      subst s1
      refine lv_tableIn (x := 4) (off := 78) (tgt := 79) hx hb dX6_count_1 (by decide) (by decide) rfl (by decide) ?_
      refine lv_aload_n hx hb dX6_count_79 rfl (lv_at hl 0 rfl) ?_
      refine zz_get X Z 0 rfl rfl (fun w h => List.mem_cons_of_mem _ (List.mem_append_left _ (List.mem_append_left _ (List.mem_append_right _ h)))) 11 rfl (zz_m 5 rfl) rfl dX6_count_80 ?_
      exact zz_iret X hr hlk Z () (by decide) [] [] (by decide +kernel) rfl rfl dX6_count_83
    · have s1 : what = 5 := s1
      subst s1
      refine lv_tableIn (x := 5) (off := 83) (tgt := 84) hx hb dX6_count_1 (by decide) (by decide) rfl (by decide) ?_
      refine lv_aload_n hx hb dX6_count_84 rfl (lv_at hl 0 rfl) ?_
      refine zz_get X Z 0 rfl rfl (fun w h => List.mem_cons_of_mem _ (List.mem_append_left _ (List.mem_append_left _ (List.mem_append_right _ h)))) 10 rfl (zz_m 6 rfl) rfl dX6_count_85 ?_
      exact zz_iret X hr hlk Z () (by decide) [] [] (by decide +kernel) rfl rfl dX6_count_88
    · have s1 : what = 6 := s1
      subst s1
      refine lv_tableIn (x := 6) (off := 88) (tgt := 89) hx hb dX6_count_1 (by decide) (by decide) rfl (by decide) ?_
      refine lv_aload_n hx hb dX6_count_89 rfl (lv_at hl 0 rfl) ?_
      refine zz_get X Z 0 rfl rfl (fun w h => List.mem_cons_of_mem _ (List.mem_append_left _ (List.mem_append_left _ (List.mem_append_right _ h)))) 1 rfl (zz_m 1 rfl) rfl dX6_count_90 ?_
      refine zz_get X Z 1 rfl rfl (fun w h => List.mem_cons_of_mem _ (List.mem_append_left _ (List.mem_append_right _ h))) 13 rfl (zz_m 7 rfl) rfl dX6_count_93 ?_
      exact zz_iret X hr hlk Z () (by decide) [] [] (by decide +kernel) rfl rfl dX6_count_96

set_option maxHeartbeats 4000000 in
set_option maxRecDepth 100000 in
theorem c6_ruleFirst (l : Launch) (D : va_G) (x : Nat) (tx0 : Nat) (nb : Nat) (tb : Nat) (ib : Nat) (ah : Nat) (tp : Nat) (rd : Nat) (sh : Nat) (sl : Nat) (wt : Nat) (ntx : Nat) (nst : Nat) (nct : Nat) (v : Int32)  : zz_MI l yX6_ruleFirst wsX6_ruleFirst 1 22 0 0 D [.ref x, .int v] [(x, .inr (6, [.ref tx0, .ref nb, .ref tb, .ref ib, .ref ah, .ref tp, .ref rd, .ref sh, .ref sl, .ref wt, .int 0, .int 0, .int 0, .int 0, .int 0])), (nb, .inr (0, [.ref ntx, .ref nst, .ref nct, .int 0, .int 0, .int 3, .int 0, .int 0, .int 10, .int 0, .int 0, .int 0, .int 0, .int 1]))] [] (fun (r : Int32) (u : Unit) => r = sp_r v 0 9 0) (fun (u : Unit) => []) (fun (u : Unit) => []) := by
  intro sz
  refine Met.ofW (cc := cX6_ruleFirst) (maxL := 3) (ret := (some .int)) (by decide) rfl ?_
  intro p e s m args below meth c s₁ B hml hv
  obtain ⟨rfl, hC⟩ := hv
  have hx := B.exec
  have hb := B.bytes
  have hr := B.returns
  have hts := atoms_spec (ws := wsX6_ruleFirst) B.pre
  have hown : s.vm.findClass RX6 = some m.cls := findClass_of_methodNamed B.named
  have hlk := B.notSynchronized
  have X : CallFix p m c cX6_ruleFirst 3 s _ wsX6_ruleFirst RX6 := ⟨hx, hb, hml, hown, hts⟩
  have Z := zz_enter hC
  generalize va_A [(x, .inr (6, [.ref tx0, .ref nb, .ref tb, .ref ib, .ref ah, .ref tp, .ref rd, .ref sh, .ref sl, .ref wt, .int 0, .int 0, .int 0, .int 0, .int 0])), (nb, .inr (0, [.ref ntx, .ref nst, .ref nct, .int 0, .int 0, .int 3, .int 0, .int 0, .int 10, .int 0, .int 0, .int 0, .int 0, .int 1]))] sz = A at Z ⊢
  have hl := lv_entry ([.ref x, .int v]) (n := 3) (Nat.le_of_ble_eq_true rfl)
  rw [lg_entry_eq]
  generalize (lg_sl ([.ref x, .int v]) ++ List.replicate (3 - (lg_sl ([.ref x, .int v])).length) Slot.unset).toArray = ls at hl ⊢
  have hl : lv_has ls 3 [(0, .ref x), (1, .int v)] := hl
  refine lv_iload_n hx hb dX6_ruleFirst_0 rfl (lv_at hl 1 rfl) ?_
  refine lv_iconst (v := 0) hx hb dX6_ruleFirst_1 (by decide) ?_
  refine lv_aload_n hx hb dX6_ruleFirst_2 rfl (lv_at hl 0 rfl) ?_
  refine zz_get X Z 0 rfl rfl (fun w h => List.mem_cons_of_mem _ (List.mem_append_left _ (List.mem_append_right _ h))) 1 rfl (zz_m 1 rfl) rfl dX6_ruleFirst_3 ?_
  refine zz_ci (WC := [(nb, .inr (0, [.ref ntx, .ref nst, .ref nct, .int 0, .int 0, .int 3, .int 0, .int 0, .int 10, .int 0, .int 0, .int 0, .int 0, .int 1]))]) (TC := []) (WR := [(x, .inr (6, [.ref tx0, .ref nb, .ref tb, .ref ib, .ref ah, .ref tp, .ref rd, .ref sh, .ref sl, .ref wt, .int 0, .int 0, .int 0, .int 0, .int 0]))]) (TR := []) (k := 0) (n := 0) Z [1] [0] [] [] rfl rfl (by decide +kernel) (by decide +kernel) (by decide +kernel) rfl rfl (fun Zc => va_runV (As := []) (rest := [.int 0, .int v]) X (c_lastFirst l D nb ntx nst nct 0 0 3 0 0 10 0 0 0 0 1 s.heap.size) (cwV 0 hts gX6_ruleFirst_X0_lastFirst rfl rfl rfl ⟨rfl, zh_X0_lastFirst⟩ ⟨Nat.le_of_ble_eq_true rfl, Nat.le_of_ble_eq_true rfl⟩) (zz_pV (ci := 0) Zc 0 rfl rfl) rfl rfl hl.1 rfl (lv_room (Nat.le_of_ble_eq_true rfl)) dX6_ruleFirst_6 ⟨Nat.le_of_ble_eq_true rfl, Nat.le_of_ble_eq_true rfl⟩) rfl rfl (fun r3 u1 H1 locs2 hw2 Z3 => ?_)
  clear Z
  have hw2 : r3 = 9 := hw2.trans (by decide)
  subst r3
  have Z4 : zz_S D A s [(x, .inr (6, [.ref tx0, .ref nb, .ref tb, .ref ib, .ref ah, .ref tp, .ref rd, .ref sh, .ref sl, .ref wt, .int 0, .int 0, .int 0, .int 0, .int 0])), (nb, .inr (0, [.ref ntx, .ref nst, .ref nct, .int 0, .int 0, .int 3, .int 0, .int 0, .int 10, .int 0, .int 0, .int 0, .int 0, .int 1]))] [] H1 locs2 := Z3
  clear Z3
  refine zz_ci (WC := []) (TC := []) (WR := [(x, .inr (6, [.ref tx0, .ref nb, .ref tb, .ref ib, .ref ah, .ref tp, .ref rd, .ref sh, .ref sl, .ref wt, .int 0, .int 0, .int 0, .int 0, .int 0])), (nb, .inr (0, [.ref ntx, .ref nst, .ref nct, .int 0, .int 0, .int 3, .int 0, .int 0, .int 10, .int 0, .int 0, .int 0, .int 0, .int 1]))]) (TR := []) (k := 0) (n := 0) Z4 [] [0, 1] [] [] rfl rfl (by decide +kernel) (by decide +kernel) (by decide +kernel) rfl rfl (fun Zc => va_runS (As := [.int v, .int 0, .int 9]) (rest := []) X (c_within l D v 0 9 H1.size) (va_cwS 3 hts gX6_ruleFirst_X6_within rfl rfl rfl zh_X6_within ⟨Nat.le_of_ble_eq_true rfl, Nat.le_of_ble_eq_true rfl⟩) (zz_pS Zc) rfl rfl hl.1 rfl (lv_room (Nat.le_of_ble_eq_true rfl)) dX6_ruleFirst_9 ⟨Nat.le_of_ble_eq_true rfl, Nat.le_of_ble_eq_true rfl⟩) rfl rfl (fun r6 u4 H5 locs6 hw5 Z7 => ?_)
  clear Z4
  subst r6
  have Z8 : zz_S D A s [(x, .inr (6, [.ref tx0, .ref nb, .ref tb, .ref ib, .ref ah, .ref tp, .ref rd, .ref sh, .ref sl, .ref wt, .int 0, .int 0, .int 0, .int 0, .int 0])), (nb, .inr (0, [.ref ntx, .ref nst, .ref nct, .int 0, .int 0, .int 3, .int 0, .int 0, .int 10, .int 0, .int 0, .int 0, .int 0, .int 1]))] [] H5 locs6 := Z7
  clear Z7
  by_cases w7 : 0 ≤ v ∧ v ≤ 9
  · refine zz_v (v := 1) (zz_wiT w7) ?_
    refine lv_if_ne (tgt := 18) hx hb dX6_ruleFirst_12 (by decide) (fun _ => ?_) (fun h => absurd h (by decide))
    refine lv_aload_n hx hb dX6_ruleFirst_18 rfl (lv_at hl 0 rfl) ?_
    refine zz_get X Z8 0 rfl rfl (fun w h => List.mem_cons_of_mem _ (List.mem_append_left _ (List.mem_append_right _ h))) 1 rfl (zz_m 1 rfl) rfl dX6_ruleFirst_19 ?_
    refine zz_get X Z8 1 rfl rfl (fun w h => List.mem_cons_of_mem _ (List.mem_append_right _ h)) 6 rfl (zz_m 3 rfl) rfl dX6_ruleFirst_22 ?_
    refine lv_istore_n (lv' := [(2, .int 0), (0, .ref x), (1, .int v)]) hx hb dX6_ruleFirst_25 rfl hl (by decide) rfl (fun ls9 hl10 => ?_)
    clear hl
    refine lv_aload_n hx hb dX6_ruleFirst_26 rfl (lv_at hl10 1 rfl) ?_
    refine zz_get X Z8 0 rfl rfl (fun w h => List.mem_cons_of_mem _ (List.mem_append_left _ (List.mem_append_right _ h))) 1 rfl (zz_m 1 rfl) rfl dX6_ruleFirst_27 ?_
    refine lv_iload_n hx hb dX6_ruleFirst_30 rfl (lv_at hl10 2 rfl) ?_
    refine zz_put (WS' := [(x, .inr (6, [.ref tx0, .ref nb, .ref tb, .ref ib, .ref ah, .ref tp, .ref rd, .ref sh, .ref sl, .ref wt, .int 0, .int 0, .int 0, .int 0, .int 0])), (nb, .inr (0, [.ref ntx, .ref nst, .ref nct, .int 0, .int 0, .int 3, .int v, .int 0, .int 10, .int 0, .int 0, .int 0, .int 0, .int 1]))]) X Z8 1 rfl rfl (fun w h => List.mem_cons_of_mem _ (List.mem_append_right _ h)) tyX0 tyX0_ok nmX0 6 rfl (zz_m 3 rfl) rfl rfl rfl rfl dX6_ruleFirst_31 rfl (fun H11 locs12 Z13 => ?_)
    clear Z8
    refine lv_iload_n hx hb dX6_ruleFirst_34 rfl (lv_at hl10 0 rfl) ?_
    exact zz_iret X hr hlk Z13 () (by simp [sp_r, w7]) [] [] (by decide +kernel) rfl rfl dX6_ruleFirst_35
  · refine zz_v (v := 0) (zz_wiF w7) ?_
    refine lv_if_ne (tgt := 18) hx hb dX6_ruleFirst_12 (by decide) (fun h => absurd (by decide) h) (fun _ => ?_)
    refine lv_ldc (v := (-1000000001)) hx hb hown (hts _ (zz_m 2 rfl)) dX6_ruleFirst_15 ?_
    exact zz_iret X hr hlk Z8 () (by simp [sp_r, w7]) [] [] (by decide +kernel) rfl rfl dX6_ruleFirst_17

set_option maxHeartbeats 4000000 in
set_option maxRecDepth 100000 in
theorem c6_ruleWidth (l : Launch) (D : va_G) (x : Nat) (tx0 : Nat) (nb : Nat) (tb : Nat) (ib : Nat) (ah : Nat) (tp : Nat) (rd : Nat) (sh : Nat) (sl : Nat) (wt : Nat) (ntx : Nat) (nst : Nat) (nct : Nat) (v : Int32)  : zz_MI l yX6_ruleWidth wsX6_ruleWidth 3 67 0 0 D [.ref x, .int v] [(x, .inr (6, [.ref tx0, .ref nb, .ref tb, .ref ib, .ref ah, .ref tp, .ref rd, .ref sh, .ref sl, .ref wt, .int 0, .int 0, .int 0, .int 0, .int 0])), (nb, .inr (0, [.ref ntx, .ref nst, .ref nct, .int 0, .int 0, .int 3, .int 0, .int 0, .int 10, .int 0, .int 0, .int 0, .int 0, .int 1]))] [] (fun (r : Int32) (u : Unit) => r = sp_r v 1 6 3) (fun (u : Unit) => []) (fun (u : Unit) => []) := by
  intro sz
  refine Met.ofW (cc := cX6_ruleWidth) (maxL := 3) (ret := (some .int)) (by decide) rfl ?_
  intro p e s m args below meth c s₁ B hml hv
  obtain ⟨rfl, hC⟩ := hv
  have hx := B.exec
  have hb := B.bytes
  have hr := B.returns
  have hts := atoms_spec (ws := wsX6_ruleWidth) B.pre
  have hown : s.vm.findClass RX6 = some m.cls := findClass_of_methodNamed B.named
  have hlk := B.notSynchronized
  have X : CallFix p m c cX6_ruleWidth 3 s _ wsX6_ruleWidth RX6 := ⟨hx, hb, hml, hown, hts⟩
  have Z := zz_enter hC
  generalize va_A [(x, .inr (6, [.ref tx0, .ref nb, .ref tb, .ref ib, .ref ah, .ref tp, .ref rd, .ref sh, .ref sl, .ref wt, .int 0, .int 0, .int 0, .int 0, .int 0])), (nb, .inr (0, [.ref ntx, .ref nst, .ref nct, .int 0, .int 0, .int 3, .int 0, .int 0, .int 10, .int 0, .int 0, .int 0, .int 0, .int 1]))] sz = A at Z ⊢
  have hl := lv_entry ([.ref x, .int v]) (n := 3) (Nat.le_of_ble_eq_true rfl)
  rw [lg_entry_eq]
  generalize (lg_sl ([.ref x, .int v]) ++ List.replicate (3 - (lg_sl ([.ref x, .int v])).length) Slot.unset).toArray = ls at hl ⊢
  have hl : lv_has ls 3 [(0, .ref x), (1, .int v)] := hl
  refine lv_iload_n hx hb dX6_ruleWidth_0 rfl (lv_at hl 1 rfl) ?_
  refine lv_iconst (v := 1) hx hb dX6_ruleWidth_1 (by decide) ?_
  refine lv_bipush (v := 6) hx hb dX6_ruleWidth_2 (by decide) ?_
  refine zz_ci (WC := []) (TC := []) (WR := [(x, .inr (6, [.ref tx0, .ref nb, .ref tb, .ref ib, .ref ah, .ref tp, .ref rd, .ref sh, .ref sl, .ref wt, .int 0, .int 0, .int 0, .int 0, .int 0])), (nb, .inr (0, [.ref ntx, .ref nst, .ref nct, .int 0, .int 0, .int 3, .int 0, .int 0, .int 10, .int 0, .int 0, .int 0, .int 0, .int 1]))]) (TR := []) (k := 0) (n := 0) Z [] [0, 1] [] [] rfl rfl (by decide +kernel) (by decide +kernel) (by decide +kernel) rfl rfl (fun Zc => va_runS (As := [.int v, .int 1, .int 6]) (rest := []) X (c_within l D v 1 6 s.heap.size) (va_cwS 3 hts gX6_ruleWidth_X6_within rfl rfl rfl zh_X6_within ⟨Nat.le_of_ble_eq_true rfl, Nat.le_of_ble_eq_true rfl⟩) (zz_pS Zc) rfl rfl hl.1 rfl (lv_room (Nat.le_of_ble_eq_true rfl)) dX6_ruleWidth_4 ⟨Nat.le_of_ble_eq_true rfl, Nat.le_of_ble_eq_true rfl⟩) rfl rfl (fun r3 u1 H1 locs2 hw2 Z3 => ?_)
  clear Z
  subst r3
  have Z4 : zz_S D A s [(x, .inr (6, [.ref tx0, .ref nb, .ref tb, .ref ib, .ref ah, .ref tp, .ref rd, .ref sh, .ref sl, .ref wt, .int 0, .int 0, .int 0, .int 0, .int 0])), (nb, .inr (0, [.ref ntx, .ref nst, .ref nct, .int 0, .int 0, .int 3, .int 0, .int 0, .int 10, .int 0, .int 0, .int 0, .int 0, .int 1]))] [] H1 locs2 := Z3
  clear Z3
  by_cases w4 : 1 ≤ v ∧ v ≤ 6
  · refine zz_v (v := 1) (zz_wiT w4) ?_
    refine lv_if_ne (tgt := 13) hx hb dX6_ruleWidth_7 (by decide) (fun _ => ?_) (fun h => absurd h (by decide))
    refine lv_aload_n hx hb dX6_ruleWidth_13 rfl (lv_at hl 0 rfl) ?_
    refine zz_get X Z4 0 rfl rfl (fun w h => List.mem_cons_of_mem _ (List.mem_append_left _ (List.mem_append_right _ h))) 1 rfl (zz_m 2 rfl) rfl dX6_ruleWidth_14 ?_
    refine zz_get X Z4 1 rfl rfl (fun w h => List.mem_cons_of_mem _ (List.mem_append_right _ h)) 5 rfl (zz_m 3 rfl) rfl dX6_ruleWidth_17 ?_
    refine lv_istore_n (lv' := [(2, .int 3), (0, .ref x), (1, .int v)]) hx hb dX6_ruleWidth_20 rfl hl (by decide) rfl (fun ls5 hl6 => ?_)
    clear hl
    refine lv_aload_n hx hb dX6_ruleWidth_21 rfl (lv_at hl6 1 rfl) ?_
    refine zz_get X Z4 0 rfl rfl (fun w h => List.mem_cons_of_mem _ (List.mem_append_left _ (List.mem_append_right _ h))) 1 rfl (zz_m 2 rfl) rfl dX6_ruleWidth_22 ?_
    refine lv_iload_n hx hb dX6_ruleWidth_25 rfl (lv_at hl6 2 rfl) ?_
    refine zz_cv (WC := [(nb, .inr (0, [.ref ntx, .ref nst, .ref nct, .int 0, .int 0, .int 3, .int 0, .int 0, .int 10, .int 0, .int 0, .int 0, .int 0, .int 1]))]) (TC := []) (WR := [(x, .inr (6, [.ref tx0, .ref nb, .ref tb, .ref ib, .ref ah, .ref tp, .ref rd, .ref sh, .ref sl, .ref wt, .int 0, .int 0, .int 0, .int 0, .int 0]))]) (TR := []) (k := 0) (n := 0) Z4 [1] [0] [] [] rfl rfl (by decide +kernel) (by decide +kernel) (by decide +kernel) rfl rfl (fun Zc => va_runV (As := [.int v]) (rest := []) X (c_widen l D nb ntx nst nct 0 0 3 0 0 10 0 0 0 0 1 v H1.size) (cwV 1 hts gX6_ruleWidth_X0_widen rfl rfl rfl ⟨rfl, zh_X0_widen⟩ ⟨Nat.le_of_ble_eq_true rfl, Nat.le_of_ble_eq_true rfl⟩) (zz_pV (ci := 0) Zc 0 rfl rfl) rfl rfl hl6.1 rfl (lv_room (Nat.le_of_ble_eq_true rfl)) dX6_ruleWidth_26 ⟨Nat.le_of_ble_eq_true rfl, Nat.le_of_ble_eq_true rfl⟩) rfl rfl (fun u5 H7 locs8 hw6 Z9 => ?_)
    clear Z4
    have Z10 : zz_S D A s [(x, .inr (6, [.ref tx0, .ref nb, .ref tb, .ref ib, .ref ah, .ref tp, .ref rd, .ref sh, .ref sl, .ref wt, .int 0, .int 0, .int 0, .int 0, .int 0])), (nb, .inr (0, [.ref ntx, .ref nst, .ref nct, .int 0, .int 0, .int v, .int (zz_held 0 0 (12 - v)), .int 0, .int 10, .int 0, .int 0, .int 0, .int 0, .int 1]))] [] H7 locs8 := Z9
    clear Z9
    refine lv_iload_n hx hb dX6_ruleWidth_29 rfl (lv_at hl6 0 rfl) ?_
    exact zz_iret X hr hlk Z10 () (by simp [sp_r, w4]) [] [] (by decide +kernel) rfl rfl dX6_ruleWidth_30
  · refine zz_v (v := 0) (zz_wiF w4) ?_
    refine lv_if_ne (tgt := 13) hx hb dX6_ruleWidth_7 (by decide) (fun h => absurd (by decide) h) (fun _ => ?_)
    refine lv_ldc (v := (-1000000001)) hx hb hown (hts _ (zz_m 1 rfl)) dX6_ruleWidth_10 ?_
    exact zz_iret X hr hlk Z4 () (by simp [sp_r, w4]) [] [] (by decide +kernel) rfl rfl dX6_ruleWidth_12

set_option maxHeartbeats 4000000 in
set_option maxRecDepth 100000 in
theorem c6_ruleGust (l : Launch) (D : va_G) (x : Nat) (tx0 : Nat) (nb : Nat) (tb : Nat) (ib : Nat) (ah : Nat) (tp : Nat) (rd : Nat) (sh : Nat) (sl : Nat) (wt : Nat) (ntx : Nat) (nst : Nat) (nct : Nat) (v : Int32)  : zz_MI l yX6_ruleGust wsX6_ruleGust 1 22 0 0 D [.ref x, .int v] [(x, .inr (6, [.ref tx0, .ref nb, .ref tb, .ref ib, .ref ah, .ref tp, .ref rd, .ref sh, .ref sl, .ref wt, .int 0, .int 0, .int 0, .int 0, .int 0])), (nb, .inr (0, [.ref ntx, .ref nst, .ref nct, .int 0, .int 0, .int 3, .int 0, .int 0, .int 10, .int 0, .int 0, .int 0, .int 0, .int 1]))] [] (fun (r : Int32) (u : Unit) => r = sp_r v 0 100 10) (fun (u : Unit) => []) (fun (u : Unit) => []) := by
  intro sz
  refine Met.ofW (cc := cX6_ruleGust) (maxL := 3) (ret := (some .int)) (by decide) rfl ?_
  intro p e s m args below meth c s₁ B hml hv
  obtain ⟨rfl, hC⟩ := hv
  have hx := B.exec
  have hb := B.bytes
  have hr := B.returns
  have hts := atoms_spec (ws := wsX6_ruleGust) B.pre
  have hown : s.vm.findClass RX6 = some m.cls := findClass_of_methodNamed B.named
  have hlk := B.notSynchronized
  have X : CallFix p m c cX6_ruleGust 3 s _ wsX6_ruleGust RX6 := ⟨hx, hb, hml, hown, hts⟩
  have Z := zz_enter hC
  generalize va_A [(x, .inr (6, [.ref tx0, .ref nb, .ref tb, .ref ib, .ref ah, .ref tp, .ref rd, .ref sh, .ref sl, .ref wt, .int 0, .int 0, .int 0, .int 0, .int 0])), (nb, .inr (0, [.ref ntx, .ref nst, .ref nct, .int 0, .int 0, .int 3, .int 0, .int 0, .int 10, .int 0, .int 0, .int 0, .int 0, .int 1]))] sz = A at Z ⊢
  have hl := lv_entry ([.ref x, .int v]) (n := 3) (Nat.le_of_ble_eq_true rfl)
  rw [lg_entry_eq]
  generalize (lg_sl ([.ref x, .int v]) ++ List.replicate (3 - (lg_sl ([.ref x, .int v])).length) Slot.unset).toArray = ls at hl ⊢
  have hl : lv_has ls 3 [(0, .ref x), (1, .int v)] := hl
  refine lv_iload_n hx hb dX6_ruleGust_0 rfl (lv_at hl 1 rfl) ?_
  refine lv_iconst (v := 0) hx hb dX6_ruleGust_1 (by decide) ?_
  refine lv_bipush (v := 100) hx hb dX6_ruleGust_2 (by decide) ?_
  refine zz_ci (WC := []) (TC := []) (WR := [(x, .inr (6, [.ref tx0, .ref nb, .ref tb, .ref ib, .ref ah, .ref tp, .ref rd, .ref sh, .ref sl, .ref wt, .int 0, .int 0, .int 0, .int 0, .int 0])), (nb, .inr (0, [.ref ntx, .ref nst, .ref nct, .int 0, .int 0, .int 3, .int 0, .int 0, .int 10, .int 0, .int 0, .int 0, .int 0, .int 1]))]) (TR := []) (k := 0) (n := 0) Z [] [0, 1] [] [] rfl rfl (by decide +kernel) (by decide +kernel) (by decide +kernel) rfl rfl (fun Zc => va_runS (As := [.int v, .int 0, .int 100]) (rest := []) X (c_within l D v 0 100 s.heap.size) (va_cwS 3 hts gX6_ruleGust_X6_within rfl rfl rfl zh_X6_within ⟨Nat.le_of_ble_eq_true rfl, Nat.le_of_ble_eq_true rfl⟩) (zz_pS Zc) rfl rfl hl.1 rfl (lv_room (Nat.le_of_ble_eq_true rfl)) dX6_ruleGust_4 ⟨Nat.le_of_ble_eq_true rfl, Nat.le_of_ble_eq_true rfl⟩) rfl rfl (fun r3 u1 H1 locs2 hw2 Z3 => ?_)
  clear Z
  subst r3
  have Z4 : zz_S D A s [(x, .inr (6, [.ref tx0, .ref nb, .ref tb, .ref ib, .ref ah, .ref tp, .ref rd, .ref sh, .ref sl, .ref wt, .int 0, .int 0, .int 0, .int 0, .int 0])), (nb, .inr (0, [.ref ntx, .ref nst, .ref nct, .int 0, .int 0, .int 3, .int 0, .int 0, .int 10, .int 0, .int 0, .int 0, .int 0, .int 1]))] [] H1 locs2 := Z3
  clear Z3
  by_cases w4 : 0 ≤ v ∧ v ≤ 100
  · refine zz_v (v := 1) (zz_wiT w4) ?_
    refine lv_if_ne (tgt := 13) hx hb dX6_ruleGust_7 (by decide) (fun _ => ?_) (fun h => absurd h (by decide))
    refine lv_aload_n hx hb dX6_ruleGust_13 rfl (lv_at hl 0 rfl) ?_
    refine zz_get X Z4 0 rfl rfl (fun w h => List.mem_cons_of_mem _ (List.mem_append_left _ (List.mem_append_right _ h))) 1 rfl (zz_m 2 rfl) rfl dX6_ruleGust_14 ?_
    refine zz_get X Z4 1 rfl rfl (fun w h => List.mem_cons_of_mem _ (List.mem_append_right _ h)) 8 rfl (zz_m 3 rfl) rfl dX6_ruleGust_17 ?_
    refine lv_istore_n (lv' := [(2, .int 10), (0, .ref x), (1, .int v)]) hx hb dX6_ruleGust_20 rfl hl (by decide) rfl (fun ls5 hl6 => ?_)
    clear hl
    refine lv_aload_n hx hb dX6_ruleGust_21 rfl (lv_at hl6 1 rfl) ?_
    refine zz_get X Z4 0 rfl rfl (fun w h => List.mem_cons_of_mem _ (List.mem_append_left _ (List.mem_append_right _ h))) 1 rfl (zz_m 2 rfl) rfl dX6_ruleGust_22 ?_
    refine lv_iload_n hx hb dX6_ruleGust_25 rfl (lv_at hl6 2 rfl) ?_
    refine zz_put (WS' := [(x, .inr (6, [.ref tx0, .ref nb, .ref tb, .ref ib, .ref ah, .ref tp, .ref rd, .ref sh, .ref sl, .ref wt, .int 0, .int 0, .int 0, .int 0, .int 0])), (nb, .inr (0, [.ref ntx, .ref nst, .ref nct, .int 0, .int 0, .int 3, .int 0, .int 0, .int v, .int 0, .int 0, .int 0, .int 0, .int 1]))]) X Z4 1 rfl rfl (fun w h => List.mem_cons_of_mem _ (List.mem_append_right _ h)) tyX0 tyX0_ok nmX0 8 rfl (zz_m 3 rfl) rfl rfl rfl rfl dX6_ruleGust_26 rfl (fun H7 locs8 Z9 => ?_)
    clear Z4
    refine lv_iload_n hx hb dX6_ruleGust_29 rfl (lv_at hl6 0 rfl) ?_
    exact zz_iret X hr hlk Z9 () (by simp [sp_r, w4]) [] [] (by decide +kernel) rfl rfl dX6_ruleGust_30
  · refine zz_v (v := 0) (zz_wiF w4) ?_
    refine lv_if_ne (tgt := 13) hx hb dX6_ruleGust_7 (by decide) (fun h => absurd (by decide) h) (fun _ => ?_)
    refine lv_ldc (v := (-1000000001)) hx hb hown (hts _ (zz_m 1 rfl)) dX6_ruleGust_10 ?_
    exact zz_iret X hr hlk Z4 () (by simp [sp_r, w4]) [] [] (by decide +kernel) rfl rfl dX6_ruleGust_12

set_option maxHeartbeats 4000000 in
set_option maxRecDepth 100000 in
theorem c6_ruleMode (l : Launch) (D : va_G) (x : Nat) (tx0 : Nat) (nb : Nat) (tb : Nat) (ib : Nat) (ah : Nat) (tp : Nat) (rd : Nat) (sh : Nat) (sl : Nat) (wt : Nat) (ntx : Nat) (nst : Nat) (nct : Nat) (v : Int32)  : zz_MI l yX6_ruleMode wsX6_ruleMode 1 22 0 0 D [.ref x, .int v] [(x, .inr (6, [.ref tx0, .ref nb, .ref tb, .ref ib, .ref ah, .ref tp, .ref rd, .ref sh, .ref sl, .ref wt, .int 0, .int 0, .int 0, .int 0, .int 0])), (nb, .inr (0, [.ref ntx, .ref nst, .ref nct, .int 0, .int 0, .int 3, .int 0, .int 0, .int 10, .int 0, .int 0, .int 0, .int 0, .int 1]))] [] (fun (r : Int32) (u : Unit) => r = sp_r v 0 2 0) (fun (u : Unit) => []) (fun (u : Unit) => []) := by
  intro sz
  refine Met.ofW (cc := cX6_ruleMode) (maxL := 3) (ret := (some .int)) (by decide) rfl ?_
  intro p e s m args below meth c s₁ B hml hv
  obtain ⟨rfl, hC⟩ := hv
  have hx := B.exec
  have hb := B.bytes
  have hr := B.returns
  have hts := atoms_spec (ws := wsX6_ruleMode) B.pre
  have hown : s.vm.findClass RX6 = some m.cls := findClass_of_methodNamed B.named
  have hlk := B.notSynchronized
  have X : CallFix p m c cX6_ruleMode 3 s _ wsX6_ruleMode RX6 := ⟨hx, hb, hml, hown, hts⟩
  have Z := zz_enter hC
  generalize va_A [(x, .inr (6, [.ref tx0, .ref nb, .ref tb, .ref ib, .ref ah, .ref tp, .ref rd, .ref sh, .ref sl, .ref wt, .int 0, .int 0, .int 0, .int 0, .int 0])), (nb, .inr (0, [.ref ntx, .ref nst, .ref nct, .int 0, .int 0, .int 3, .int 0, .int 0, .int 10, .int 0, .int 0, .int 0, .int 0, .int 1]))] sz = A at Z ⊢
  have hl := lv_entry ([.ref x, .int v]) (n := 3) (Nat.le_of_ble_eq_true rfl)
  rw [lg_entry_eq]
  generalize (lg_sl ([.ref x, .int v]) ++ List.replicate (3 - (lg_sl ([.ref x, .int v])).length) Slot.unset).toArray = ls at hl ⊢
  have hl : lv_has ls 3 [(0, .ref x), (1, .int v)] := hl
  refine lv_iload_n hx hb dX6_ruleMode_0 rfl (lv_at hl 1 rfl) ?_
  refine lv_iconst (v := 0) hx hb dX6_ruleMode_1 (by decide) ?_
  refine lv_iconst (v := 2) hx hb dX6_ruleMode_2 (by decide) ?_
  refine zz_ci (WC := []) (TC := []) (WR := [(x, .inr (6, [.ref tx0, .ref nb, .ref tb, .ref ib, .ref ah, .ref tp, .ref rd, .ref sh, .ref sl, .ref wt, .int 0, .int 0, .int 0, .int 0, .int 0])), (nb, .inr (0, [.ref ntx, .ref nst, .ref nct, .int 0, .int 0, .int 3, .int 0, .int 0, .int 10, .int 0, .int 0, .int 0, .int 0, .int 1]))]) (TR := []) (k := 0) (n := 0) Z [] [0, 1] [] [] rfl rfl (by decide +kernel) (by decide +kernel) (by decide +kernel) rfl rfl (fun Zc => va_runS (As := [.int v, .int 0, .int 2]) (rest := []) X (c_within l D v 0 2 s.heap.size) (va_cwS 3 hts gX6_ruleMode_X6_within rfl rfl rfl zh_X6_within ⟨Nat.le_of_ble_eq_true rfl, Nat.le_of_ble_eq_true rfl⟩) (zz_pS Zc) rfl rfl hl.1 rfl (lv_room (Nat.le_of_ble_eq_true rfl)) dX6_ruleMode_3 ⟨Nat.le_of_ble_eq_true rfl, Nat.le_of_ble_eq_true rfl⟩) rfl rfl (fun r3 u1 H1 locs2 hw2 Z3 => ?_)
  clear Z
  subst r3
  have Z4 : zz_S D A s [(x, .inr (6, [.ref tx0, .ref nb, .ref tb, .ref ib, .ref ah, .ref tp, .ref rd, .ref sh, .ref sl, .ref wt, .int 0, .int 0, .int 0, .int 0, .int 0])), (nb, .inr (0, [.ref ntx, .ref nst, .ref nct, .int 0, .int 0, .int 3, .int 0, .int 0, .int 10, .int 0, .int 0, .int 0, .int 0, .int 1]))] [] H1 locs2 := Z3
  clear Z3
  by_cases w4 : 0 ≤ v ∧ v ≤ 2
  · refine zz_v (v := 1) (zz_wiT w4) ?_
    refine lv_if_ne (tgt := 12) hx hb dX6_ruleMode_6 (by decide) (fun _ => ?_) (fun h => absurd h (by decide))
    refine lv_aload_n hx hb dX6_ruleMode_12 rfl (lv_at hl 0 rfl) ?_
    refine zz_get X Z4 0 rfl rfl (fun w h => List.mem_cons_of_mem _ (List.mem_append_left _ (List.mem_append_right _ h))) 1 rfl (zz_m 2 rfl) rfl dX6_ruleMode_13 ?_
    refine zz_get X Z4 1 rfl rfl (fun w h => List.mem_cons_of_mem _ (List.mem_append_right _ h)) 9 rfl (zz_m 3 rfl) rfl dX6_ruleMode_16 ?_
    refine lv_istore_n (lv' := [(2, .int 0), (0, .ref x), (1, .int v)]) hx hb dX6_ruleMode_19 rfl hl (by decide) rfl (fun ls5 hl6 => ?_)
    clear hl
    refine lv_aload_n hx hb dX6_ruleMode_20 rfl (lv_at hl6 1 rfl) ?_
    refine zz_get X Z4 0 rfl rfl (fun w h => List.mem_cons_of_mem _ (List.mem_append_left _ (List.mem_append_right _ h))) 1 rfl (zz_m 2 rfl) rfl dX6_ruleMode_21 ?_
    refine lv_iload_n hx hb dX6_ruleMode_24 rfl (lv_at hl6 2 rfl) ?_
    refine zz_put (WS' := [(x, .inr (6, [.ref tx0, .ref nb, .ref tb, .ref ib, .ref ah, .ref tp, .ref rd, .ref sh, .ref sl, .ref wt, .int 0, .int 0, .int 0, .int 0, .int 0])), (nb, .inr (0, [.ref ntx, .ref nst, .ref nct, .int 0, .int 0, .int 3, .int 0, .int 0, .int 10, .int v, .int 0, .int 0, .int 0, .int 1]))]) X Z4 1 rfl rfl (fun w h => List.mem_cons_of_mem _ (List.mem_append_right _ h)) tyX0 tyX0_ok nmX0 9 rfl (zz_m 3 rfl) rfl rfl rfl rfl dX6_ruleMode_25 rfl (fun H7 locs8 Z9 => ?_)
    clear Z4
    refine lv_iload_n hx hb dX6_ruleMode_28 rfl (lv_at hl6 0 rfl) ?_
    exact zz_iret X hr hlk Z9 () (by simp [sp_r, w4]) [] [] (by decide +kernel) rfl rfl dX6_ruleMode_29
  · refine zz_v (v := 0) (zz_wiF w4) ?_
    refine lv_if_ne (tgt := 12) hx hb dX6_ruleMode_6 (by decide) (fun h => absurd (by decide) h) (fun _ => ?_)
    refine lv_ldc (v := (-1000000001)) hx hb hown (hts _ (zz_m 1 rfl)) dX6_ruleMode_9 ?_
    exact zz_iret X hr hlk Z4 () (by simp [sp_r, w4]) [] [] (by decide +kernel) rfl rfl dX6_ruleMode_11

set_option maxHeartbeats 4000000 in
set_option maxRecDepth 100000 in
theorem c6_rule (l : Launch) (D : va_G) (x : Nat) (tx0 : Nat) (nb : Nat) (tb : Nat) (ib : Nat) (ah : Nat) (tp : Nat) (rd : Nat) (sh : Nat) (sl : Nat) (wt : Nat) (ntx : Nat) (nst : Nat) (nct : Nat) (what : Int32) (v : Int32)  : zz_MI l yX6_rule wsX6_rule 4 89 0 0 D [.ref x, .int what, .int v] [(x, .inr (6, [.ref tx0, .ref nb, .ref tb, .ref ib, .ref ah, .ref tp, .ref rd, .ref sh, .ref sl, .ref wt, .int 0, .int 0, .int 0, .int 0, .int 0])), (nb, .inr (0, [.ref ntx, .ref nst, .ref nct, .int 0, .int 0, .int 3, .int 0, .int 0, .int 10, .int 0, .int 0, .int 0, .int 0, .int 1]))] [] (fun (r : Int32) (u : Unit) => r = sp_rule what v) (fun (u : Unit) => []) (fun (u : Unit) => []) := by
  intro sz
  refine Met.ofW (cc := cX6_rule) (maxL := 3) (ret := (some .int)) (by decide) rfl ?_
  intro p e s m args below meth c s₁ B hml hv
  obtain ⟨rfl, hC⟩ := hv
  have hx := B.exec
  have hb := B.bytes
  have hr := B.returns
  have hts := atoms_spec (ws := wsX6_rule) B.pre
  have hown : s.vm.findClass RX6 = some m.cls := findClass_of_methodNamed B.named
  have hlk := B.notSynchronized
  have X : CallFix p m c cX6_rule 3 s _ wsX6_rule RX6 := ⟨hx, hb, hml, hown, hts⟩
  have Z := zz_enter hC
  generalize va_A [(x, .inr (6, [.ref tx0, .ref nb, .ref tb, .ref ib, .ref ah, .ref tp, .ref rd, .ref sh, .ref sl, .ref wt, .int 0, .int 0, .int 0, .int 0, .int 0])), (nb, .inr (0, [.ref ntx, .ref nst, .ref nct, .int 0, .int 0, .int 3, .int 0, .int 0, .int 10, .int 0, .int 0, .int 0, .int 0, .int 1]))] sz = A at Z ⊢
  have hl := lv_entry ([.ref x, .int what, .int v]) (n := 3) (Nat.le_of_ble_eq_true rfl)
  rw [lg_entry_eq]
  generalize (lg_sl ([.ref x, .int what, .int v]) ++ List.replicate (3 - (lg_sl ([.ref x, .int what, .int v])).length) Slot.unset).toArray = ls at hl ⊢
  have hl : lv_has ls 3 [(0, .ref x), (1, .int what), (2, .int v)] := hl
  refine lv_iload_n hx hb dX6_rule_0 rfl (lv_at hl 1 rfl) ?_
  rcases zz_sw 3 what with s1 | ⟨j, hj, s1⟩
  · refine lv_tableOut (tgt := 56) hx hb dX6_rule_1 s1 (by decide) ?_
    refine lv_ldc (v := (-1000000001)) hx hb hown (hts _ (zz_m 1 rfl)) dX6_rule_56 ?_
    exact zz_iret X hr hlk Z () (if_pos s1).symm [] [] (by decide +kernel) rfl rfl dX6_rule_58
  · rcases (show j = 0 ∨ j = 1 ∨ j = 2 ∨ j = 3 by omega) with rfl | rfl | rfl | rfl
    · have s1 : what = 0 := s1
      subst s1
      refine lv_tableIn (x := 0) (off := 31) (tgt := 32) hx hb dX6_rule_1 (by decide) (by decide) rfl (by decide) ?_
      refine lv_aload_n hx hb dX6_rule_32 rfl (lv_at hl 0 rfl) ?_
      refine lv_iload_n hx hb dX6_rule_33 rfl (lv_at hl 2 rfl) ?_
      refine zz_ci (WC := [(x, .inr (6, [.ref tx0, .ref nb, .ref tb, .ref ib, .ref ah, .ref tp, .ref rd, .ref sh, .ref sl, .ref wt, .int 0, .int 0, .int 0, .int 0, .int 0])), (nb, .inr (0, [.ref ntx, .ref nst, .ref nct, .int 0, .int 0, .int 3, .int 0, .int 0, .int 10, .int 0, .int 0, .int 0, .int 0, .int 1]))]) (TC := []) (WR := []) (TR := []) (k := 0) (n := 0) Z [0, 1] [] [] [] rfl rfl (by decide +kernel) (by decide +kernel) (by decide +kernel) rfl rfl (fun Zc => va_runV (As := [.int v]) (rest := []) X (c6_ruleFirst l D x tx0 nb tb ib ah tp rd sh sl wt ntx nst nct v s.heap.size) (cwV 1 hts gX6_rule_X6_ruleFirst rfl rfl rfl ⟨rfl, zh_X6_ruleFirst⟩ ⟨Nat.le_of_ble_eq_true rfl, Nat.le_of_ble_eq_true rfl⟩) (zz_pV (ci := 6) Zc 0 rfl rfl) rfl rfl hl.1 rfl (lv_room (Nat.le_of_ble_eq_true rfl)) dX6_rule_34 ⟨Nat.le_of_ble_eq_true rfl, Nat.le_of_ble_eq_true rfl⟩) rfl rfl (fun r4 u2 H1 locs2 hw3 Z3 => ?_)
      clear Z
      subst r4
      have Z4 : zz_S D A s [] [] H1 locs2 := Z3
      clear Z3
      exact zz_iret X hr hlk Z4 () rfl [] [] (by decide +kernel) rfl rfl dX6_rule_37
    · have s1 : what = 1 := s1
      subst s1
      refine lv_tableIn (x := 1) (off := 37) (tgt := 38) hx hb dX6_rule_1 (by decide) (by decide) rfl (by decide) ?_
      refine lv_aload_n hx hb dX6_rule_38 rfl (lv_at hl 0 rfl) ?_
      refine lv_iload_n hx hb dX6_rule_39 rfl (lv_at hl 2 rfl) ?_
      refine zz_ci (WC := [(x, .inr (6, [.ref tx0, .ref nb, .ref tb, .ref ib, .ref ah, .ref tp, .ref rd, .ref sh, .ref sl, .ref wt, .int 0, .int 0, .int 0, .int 0, .int 0])), (nb, .inr (0, [.ref ntx, .ref nst, .ref nct, .int 0, .int 0, .int 3, .int 0, .int 0, .int 10, .int 0, .int 0, .int 0, .int 0, .int 1]))]) (TC := []) (WR := []) (TR := []) (k := 0) (n := 0) Z [0, 1] [] [] [] rfl rfl (by decide +kernel) (by decide +kernel) (by decide +kernel) rfl rfl (fun Zc => va_runV (As := [.int v]) (rest := []) X (c6_ruleWidth l D x tx0 nb tb ib ah tp rd sh sl wt ntx nst nct v s.heap.size) (cwV 1 hts gX6_rule_X6_ruleWidth rfl rfl rfl ⟨rfl, zh_X6_ruleWidth⟩ ⟨Nat.le_of_ble_eq_true rfl, Nat.le_of_ble_eq_true rfl⟩) (zz_pV (ci := 6) Zc 0 rfl rfl) rfl rfl hl.1 rfl (lv_room (Nat.le_of_ble_eq_true rfl)) dX6_rule_40 ⟨Nat.le_of_ble_eq_true rfl, Nat.le_of_ble_eq_true rfl⟩) rfl rfl (fun r7 u5 H5 locs6 hw6 Z7 => ?_)
      clear Z
      subst r7
      have Z8 : zz_S D A s [] [] H5 locs6 := Z7
      clear Z7
      exact zz_iret X hr hlk Z8 () rfl [] [] (by decide +kernel) rfl rfl dX6_rule_43
    · have s1 : what = 2 := s1
      subst s1
      refine lv_tableIn (x := 2) (off := 43) (tgt := 44) hx hb dX6_rule_1 (by decide) (by decide) rfl (by decide) ?_
      refine lv_aload_n hx hb dX6_rule_44 rfl (lv_at hl 0 rfl) ?_
      refine lv_iload_n hx hb dX6_rule_45 rfl (lv_at hl 2 rfl) ?_
      refine zz_ci (WC := [(x, .inr (6, [.ref tx0, .ref nb, .ref tb, .ref ib, .ref ah, .ref tp, .ref rd, .ref sh, .ref sl, .ref wt, .int 0, .int 0, .int 0, .int 0, .int 0])), (nb, .inr (0, [.ref ntx, .ref nst, .ref nct, .int 0, .int 0, .int 3, .int 0, .int 0, .int 10, .int 0, .int 0, .int 0, .int 0, .int 1]))]) (TC := []) (WR := []) (TR := []) (k := 0) (n := 0) Z [0, 1] [] [] [] rfl rfl (by decide +kernel) (by decide +kernel) (by decide +kernel) rfl rfl (fun Zc => va_runV (As := [.int v]) (rest := []) X (c6_ruleGust l D x tx0 nb tb ib ah tp rd sh sl wt ntx nst nct v s.heap.size) (cwV 1 hts gX6_rule_X6_ruleGust rfl rfl rfl ⟨rfl, zh_X6_ruleGust⟩ ⟨Nat.le_of_ble_eq_true rfl, Nat.le_of_ble_eq_true rfl⟩) (zz_pV (ci := 6) Zc 0 rfl rfl) rfl rfl hl.1 rfl (lv_room (Nat.le_of_ble_eq_true rfl)) dX6_rule_46 ⟨Nat.le_of_ble_eq_true rfl, Nat.le_of_ble_eq_true rfl⟩) rfl rfl (fun r10 u8 H9 locs10 hw9 Z11 => ?_)
      clear Z
      subst r10
      have Z12 : zz_S D A s [] [] H9 locs10 := Z11
      clear Z11
      exact zz_iret X hr hlk Z12 () rfl [] [] (by decide +kernel) rfl rfl dX6_rule_49
    · have s1 : what = 3 := s1
      subst s1
      refine lv_tableIn (x := 3) (off := 49) (tgt := 50) hx hb dX6_rule_1 (by decide) (by decide) rfl (by decide) ?_
      refine lv_aload_n hx hb dX6_rule_50 rfl (lv_at hl 0 rfl) ?_
      refine lv_iload_n hx hb dX6_rule_51 rfl (lv_at hl 2 rfl) ?_
      refine zz_ci (WC := [(x, .inr (6, [.ref tx0, .ref nb, .ref tb, .ref ib, .ref ah, .ref tp, .ref rd, .ref sh, .ref sl, .ref wt, .int 0, .int 0, .int 0, .int 0, .int 0])), (nb, .inr (0, [.ref ntx, .ref nst, .ref nct, .int 0, .int 0, .int 3, .int 0, .int 0, .int 10, .int 0, .int 0, .int 0, .int 0, .int 1]))]) (TC := []) (WR := []) (TR := []) (k := 0) (n := 0) Z [0, 1] [] [] [] rfl rfl (by decide +kernel) (by decide +kernel) (by decide +kernel) rfl rfl (fun Zc => va_runV (As := [.int v]) (rest := []) X (c6_ruleMode l D x tx0 nb tb ib ah tp rd sh sl wt ntx nst nct v s.heap.size) (cwV 1 hts gX6_rule_X6_ruleMode rfl rfl rfl ⟨rfl, zh_X6_ruleMode⟩ ⟨Nat.le_of_ble_eq_true rfl, Nat.le_of_ble_eq_true rfl⟩) (zz_pV (ci := 6) Zc 0 rfl rfl) rfl rfl hl.1 rfl (lv_room (Nat.le_of_ble_eq_true rfl)) dX6_rule_52 ⟨Nat.le_of_ble_eq_true rfl, Nat.le_of_ble_eq_true rfl⟩) rfl rfl (fun r13 u11 H13 locs14 hw12 Z15 => ?_)
      clear Z
      subst r13
      have Z16 : zz_S D A s [] [] H13 locs14 := Z15
      clear Z15
      exact zz_iret X hr hlk Z16 () rfl [] [] (by decide +kernel) rfl rfl dX6_rule_55

set_option maxHeartbeats 4000000 in
set_option maxRecDepth 100000 in
theorem c6_deal (l : Launch) (D : va_G) (x : Nat) (tx0 : Nat) (nb : Nat) (tb : Nat) (ib : Nat) (ah : Nat) (tp : Nat) (rd : Nat) (sh : Nat) (sl : Nat) (wt : Nat) (ntx : Nat) (nst : Nat) (nct : Nat) (kst : ClassId) (sf : (Nat → Option Nat)) (q0 : Nat) (q1 : Nat) (q2 : Nat) (q3 : Nat) (q4 : Nat) (q5 : Nat) (q6 : Nat) (q7 : Nat) (q8 : Nat) (n : Int32) (asf_0 : va_rf (sf 0) = .ref q0) (asf_1 : va_rf (sf 1) = .ref q1) (asf_2 : va_rf (sf 2) = .ref q2) (asf_3 : va_rf (sf 3) = .ref q3) (asf_4 : va_rf (sf 4) = .ref q4) (asf_5 : va_rf (sf 5) = .ref q5) (asf_6 : va_rf (sf 6) = .ref q6) (asf_7 : va_rf (sf 7) = .ref q7) (asf_8 : va_rf (sf 8) = .ref q8) : zz_MI l yX6_deal wsX6_deal 1 24 0 0 D [.ref x, .int n] [(x, .inr (6, [.ref tx0, .ref nb, .ref tb, .ref ib, .ref ah, .ref tp, .ref rd, .ref sh, .ref sl, .ref wt, .int 0, .int 0, .int 0, .int 0, .int 0])), (nb, .inr (0, [.ref ntx, .ref nst, .ref nct, .int 0, .int 0, .int 3, .int 0, .int 0, .int 10, .int 0, .int 0, .int 0, .int 0, .int 1])), (nst, .inl (kst, 9, .inr (.inr (.inr (.inr sf))))), (q0, .inr (4, [.int 0, .int 0, .int 0, .int 0])), (q1, .inr (4, [.int 0, .int 0, .int 0, .int 0])), (q2, .inr (4, [.int 0, .int 0, .int 0, .int 0])), (q3, .inr (4, [.int 0, .int 0, .int 0, .int 0])), (q4, .inr (4, [.int 0, .int 0, .int 0, .int 0])), (q5, .inr (4, [.int 0, .int 0, .int 0, .int 0])), (q6, .inr (4, [.int 0, .int 0, .int 0, .int 0])), (q7, .inr (4, [.int 0, .int 0, .int 0, .int 0])), (q8, .inr (4, [.int 0, .int 0, .int 0, .int 0]))] [(kst, .object RX4)] (fun (r : Int32) (u : Unit) => r = sp_deal n) (fun (u : Unit) => []) (fun (u : Unit) => []) := by
  intro sz
  refine Met.ofW (cc := cX6_deal) (maxL := 7) (ret := (some .int)) (by decide) rfl ?_
  intro p e s m args below meth c s₁ B hml hv
  obtain ⟨rfl, hC⟩ := hv
  have hx := B.exec
  have hb := B.bytes
  have hr := B.returns
  have hts := atoms_spec (ws := wsX6_deal) B.pre
  have hown : s.vm.findClass RX6 = some m.cls := findClass_of_methodNamed B.named
  have hlk := B.notSynchronized
  have X : CallFix p m c cX6_deal 7 s _ wsX6_deal RX6 := ⟨hx, hb, hml, hown, hts⟩
  have Z := zz_enter hC
  generalize va_A [(x, .inr (6, [.ref tx0, .ref nb, .ref tb, .ref ib, .ref ah, .ref tp, .ref rd, .ref sh, .ref sl, .ref wt, .int 0, .int 0, .int 0, .int 0, .int 0])), (nb, .inr (0, [.ref ntx, .ref nst, .ref nct, .int 0, .int 0, .int 3, .int 0, .int 0, .int 10, .int 0, .int 0, .int 0, .int 0, .int 1])), (nst, .inl (kst, 9, .inr (.inr (.inr (.inr sf))))), (q0, .inr (4, [.int 0, .int 0, .int 0, .int 0])), (q1, .inr (4, [.int 0, .int 0, .int 0, .int 0])), (q2, .inr (4, [.int 0, .int 0, .int 0, .int 0])), (q3, .inr (4, [.int 0, .int 0, .int 0, .int 0])), (q4, .inr (4, [.int 0, .int 0, .int 0, .int 0])), (q5, .inr (4, [.int 0, .int 0, .int 0, .int 0])), (q6, .inr (4, [.int 0, .int 0, .int 0, .int 0])), (q7, .inr (4, [.int 0, .int 0, .int 0, .int 0])), (q8, .inr (4, [.int 0, .int 0, .int 0, .int 0]))] sz = A at Z ⊢
  have hl := lv_entry ([.ref x, .int n]) (n := 7) (Nat.le_of_ble_eq_true rfl)
  rw [lg_entry_eq]
  generalize (lg_sl ([.ref x, .int n]) ++ List.replicate (7 - (lg_sl ([.ref x, .int n])).length) Slot.unset).toArray = ls at hl ⊢
  have hl : lv_has ls 7 [(0, .ref x), (1, .int n)] := hl
  refine lv_iload_n hx hb dX6_deal_0 rfl (lv_at hl 1 rfl) ?_
  refine lv_iconst (v := 1) hx hb dX6_deal_1 (by decide) ?_
  refine lv_bipush (v := 9) hx hb dX6_deal_2 (by decide) ?_
  refine zz_ci (WC := []) (TC := []) (WR := [(x, .inr (6, [.ref tx0, .ref nb, .ref tb, .ref ib, .ref ah, .ref tp, .ref rd, .ref sh, .ref sl, .ref wt, .int 0, .int 0, .int 0, .int 0, .int 0])), (nb, .inr (0, [.ref ntx, .ref nst, .ref nct, .int 0, .int 0, .int 3, .int 0, .int 0, .int 10, .int 0, .int 0, .int 0, .int 0, .int 1])), (nst, .inl (kst, 9, .inr (.inr (.inr (.inr sf))))), (q0, .inr (4, [.int 0, .int 0, .int 0, .int 0])), (q1, .inr (4, [.int 0, .int 0, .int 0, .int 0])), (q2, .inr (4, [.int 0, .int 0, .int 0, .int 0])), (q3, .inr (4, [.int 0, .int 0, .int 0, .int 0])), (q4, .inr (4, [.int 0, .int 0, .int 0, .int 0])), (q5, .inr (4, [.int 0, .int 0, .int 0, .int 0])), (q6, .inr (4, [.int 0, .int 0, .int 0, .int 0])), (q7, .inr (4, [.int 0, .int 0, .int 0, .int 0])), (q8, .inr (4, [.int 0, .int 0, .int 0, .int 0]))]) (TR := [(kst, .object RX4)]) (k := 0) (n := 0) Z [] [0, 1, 2, 3, 4, 5, 6, 7, 8, 9, 10, 11] [] [0] rfl rfl (by decide +kernel) (by decide +kernel) (by decide +kernel) rfl rfl (fun Zc => va_runS (As := [.int n, .int 1, .int 9]) (rest := []) X (c_within l D n 1 9 s.heap.size) (va_cwS 3 hts gX6_deal_X6_within rfl rfl rfl zh_X6_within ⟨Nat.le_of_ble_eq_true rfl, Nat.le_of_ble_eq_true rfl⟩) (zz_pS Zc) rfl rfl hl.1 rfl (lv_room (Nat.le_of_ble_eq_true rfl)) dX6_deal_4 ⟨Nat.le_of_ble_eq_true rfl, Nat.le_of_ble_eq_true rfl⟩) rfl rfl (fun r3 u1 H1 locs2 hw2 Z3 => ?_)
  clear Z
  subst r3
  have Z4 : zz_S D A s [(x, .inr (6, [.ref tx0, .ref nb, .ref tb, .ref ib, .ref ah, .ref tp, .ref rd, .ref sh, .ref sl, .ref wt, .int 0, .int 0, .int 0, .int 0, .int 0])), (nb, .inr (0, [.ref ntx, .ref nst, .ref nct, .int 0, .int 0, .int 3, .int 0, .int 0, .int 10, .int 0, .int 0, .int 0, .int 0, .int 1])), (nst, .inl (kst, 9, .inr (.inr (.inr (.inr sf))))), (q0, .inr (4, [.int 0, .int 0, .int 0, .int 0])), (q1, .inr (4, [.int 0, .int 0, .int 0, .int 0])), (q2, .inr (4, [.int 0, .int 0, .int 0, .int 0])), (q3, .inr (4, [.int 0, .int 0, .int 0, .int 0])), (q4, .inr (4, [.int 0, .int 0, .int 0, .int 0])), (q5, .inr (4, [.int 0, .int 0, .int 0, .int 0])), (q6, .inr (4, [.int 0, .int 0, .int 0, .int 0])), (q7, .inr (4, [.int 0, .int 0, .int 0, .int 0])), (q8, .inr (4, [.int 0, .int 0, .int 0, .int 0]))] [(kst, .object RX4)] H1 locs2 := Z3
  clear Z3
  by_cases w4 : 1 ≤ n ∧ n ≤ 9
  · refine zz_v (v := 1) (zz_wiT w4) ?_
    refine lv_if_ne (tgt := 13) hx hb dX6_deal_7 (by decide) (fun _ => ?_) (fun h => absurd h (by decide))
    refine lv_iload_n hx hb dX6_deal_13 rfl (lv_at hl 1 rfl) ?_
    refine lv_bipush (v := 9) hx hb dX6_deal_14 (by decide) ?_
    refine lv_aload_n hx hb dX6_deal_16 rfl (lv_at hl 0 rfl) ?_
    refine zz_get X Z4 0 rfl rfl (fun w h => List.mem_cons_of_mem _ (List.mem_append_left _ (List.mem_append_left _ (List.mem_append_right _ h)))) 1 rfl (zz_m 2 rfl) rfl dX6_deal_17 ?_
    refine zz_get X Z4 1 rfl rfl (fun w h => List.mem_cons_of_mem _ (List.mem_append_left _ (List.mem_append_right _ h))) 3 rfl (zz_m 3 rfl) rfl dX6_deal_20 ?_
    refine lv_isub hx hb dX6_deal_23 ?_
    refine zz_v (v := 9) (by decide) ?_
    refine va_mmin hx hb (by rw [hml]; exact hl.1.symm) hown (hts _ (zz_m 4 rfl)) (hts _ (zz_m 5 rfl)) (hts _ (zz_m 6 rfl)) (hts _ (zz_m 7 rfl)) (Nat.le_of_ble_eq_true rfl) (Nat.le_of_ble_eq_true rfl) (Nat.le_of_ble_eq_true rfl) (Nat.le_of_ble_eq_true rfl) dX6_deal_24 ?_
    refine zz_v (v := n) (if_neg (Int32.not_lt.mpr w4.2)) ?_
    refine lv_istore_n (lv' := [(2, .int n), (0, .ref x), (1, .int n)]) hx hb dX6_deal_27 rfl hl (by decide) rfl (fun ls5 hl6 => ?_)
    clear hl
    refine lv_iconst (v := 0) hx hb dX6_deal_28 (by decide) ?_
    refine lv_istore_n (lv' := [(3, .int 0), (2, .int n), (0, .ref x), (1, .int n)]) hx hb dX6_deal_29 rfl hl6 (by decide) rfl (fun ls7 hl8 => ?_)
    clear hl6
    refine lv_iload_n hx hb dX6_deal_30 rfl (lv_at hl8 0 rfl) ?_
    refine lv_iload_n hx hb dX6_deal_31 rfl (lv_at hl8 1 rfl) ?_
    refine lv_icmp_ge (tgt := 91) hx hb dX6_deal_32 (by decide) (fun b5 => ?_) (fun b5 => ?_)
    · refine lv_iload_n hx hb dX6_deal_91 rfl (lv_at hl8 1 rfl) ?_
      exact zz_iret X hr hlk Z4 () (if_pos w4).symm [] [] (by decide +kernel) rfl rfl dX6_deal_92
    · refine lv_aload_n hx hb dX6_deal_35 rfl (lv_at hl8 2 rfl) ?_
      refine zz_get X Z4 0 rfl rfl (fun w h => List.mem_cons_of_mem _ (List.mem_append_left _ (List.mem_append_left _ (List.mem_append_right _ h)))) 1 rfl (zz_m 2 rfl) rfl dX6_deal_36 ?_
      refine zz_ci (WC := [(nb, .inr (0, [.ref ntx, .ref nst, .ref nct, .int 0, .int 0, .int 3, .int 0, .int 0, .int 10, .int 0, .int 0, .int 0, .int 0, .int 1]))]) (TC := []) (WR := [(x, .inr (6, [.ref tx0, .ref nb, .ref tb, .ref ib, .ref ah, .ref tp, .ref rd, .ref sh, .ref sl, .ref wt, .int 0, .int 0, .int 0, .int 0, .int 0])), (nst, .inl (kst, 9, .inr (.inr (.inr (.inr sf))))), (q0, .inr (4, [.int 0, .int 0, .int 0, .int 0])), (q1, .inr (4, [.int 0, .int 0, .int 0, .int 0])), (q2, .inr (4, [.int 0, .int 0, .int 0, .int 0])), (q3, .inr (4, [.int 0, .int 0, .int 0, .int 0])), (q4, .inr (4, [.int 0, .int 0, .int 0, .int 0])), (q5, .inr (4, [.int 0, .int 0, .int 0, .int 0])), (q6, .inr (4, [.int 0, .int 0, .int 0, .int 0])), (q7, .inr (4, [.int 0, .int 0, .int 0, .int 0])), (q8, .inr (4, [.int 0, .int 0, .int 0, .int 0]))]) (TR := [(kst, .object RX4)]) (k := 0) (n := 0) Z4 [1] [0, 2, 3, 4, 5, 6, 7, 8, 9, 10, 11] [] [0] rfl rfl (by decide +kernel) (by decide +kernel) (by decide +kernel) rfl rfl (fun Zc => va_runV (As := []) (rest := []) X (c_draw l D nb ntx nst nct 0 0 3 0 0 10 0 0 0 0 1 H1.size) (cwV 0 hts gX6_deal_X0_draw rfl rfl rfl ⟨rfl, zh_X0_draw⟩ ⟨Nat.le_of_ble_eq_true rfl, Nat.le_of_ble_eq_true rfl⟩) (zz_pV (ci := 0) Zc 0 rfl rfl) rfl rfl hl8.1 rfl (lv_room (Nat.le_of_ble_eq_true rfl)) dX6_deal_39 ⟨Nat.le_of_ble_eq_true rfl, Nat.le_of_ble_eq_true rfl⟩) rfl rfl (fun r8 u6 H9 locs10 hw7 Z11 => ?_)
      clear Z4
      subst r8
      have Z12 : zz_S D A s [(x, .inr (6, [.ref tx0, .ref nb, .ref tb, .ref ib, .ref ah, .ref tp, .ref rd, .ref sh, .ref sl, .ref wt, .int 0, .int 0, .int 0, .int 0, .int 0])), (nst, .inl (kst, 9, .inr (.inr (.inr (.inr sf))))), (q0, .inr (4, [.int 0, .int 0, .int 0, .int 0])), (q1, .inr (4, [.int 0, .int 0, .int 0, .int 0])), (q2, .inr (4, [.int 0, .int 0, .int 0, .int 0])), (q3, .inr (4, [.int 0, .int 0, .int 0, .int 0])), (q4, .inr (4, [.int 0, .int 0, .int 0, .int 0])), (q5, .inr (4, [.int 0, .int 0, .int 0, .int 0])), (q6, .inr (4, [.int 0, .int 0, .int 0, .int 0])), (q7, .inr (4, [.int 0, .int 0, .int 0, .int 0])), (q8, .inr (4, [.int 0, .int 0, .int 0, .int 0])), (nb, .inr (0, [.ref ntx, .ref nst, .ref nct, .int 0, .int 0, .int 3, .int 0, .int 0, .int 10, .int 0, .int 0, .int 0, .int 0, .int (zz_nz 1)]))] [(kst, .object RX4)] H9 locs10 := Z11
      clear Z11
      refine lv_bipush (v := 6) hx hb dX6_deal_42 (by decide) ?_
      refine lv_irem hx hb dX6_deal_44 (by decide) ?_
      refine lv_topi (fun y9 ey10 => ?_)
      refine lv_istore (lv' := [(4, .int y9), (3, .int 0), (2, .int n), (0, .ref x), (1, .int n)]) hx hb dX6_deal_45 hl8 (by decide) rfl (fun ls13 hl14 => ?_)
      clear hl8
      refine lv_aload_n hx hb dX6_deal_47 rfl (lv_at hl14 3 rfl) ?_
      refine zz_get X Z12 0 rfl rfl (fun w h => List.mem_cons_of_mem _ (List.mem_append_left _ (List.mem_append_left _ (List.mem_append_right _ h)))) 1 rfl (zz_m 2 rfl) rfl dX6_deal_48 ?_
      refine zz_ci (WC := [(nb, .inr (0, [.ref ntx, .ref nst, .ref nct, .int 0, .int 0, .int 3, .int 0, .int 0, .int 10, .int 0, .int 0, .int 0, .int 0, .int (zz_nz 1)]))]) (TC := []) (WR := [(x, .inr (6, [.ref tx0, .ref nb, .ref tb, .ref ib, .ref ah, .ref tp, .ref rd, .ref sh, .ref sl, .ref wt, .int 0, .int 0, .int 0, .int 0, .int 0])), (nst, .inl (kst, 9, .inr (.inr (.inr (.inr sf))))), (q0, .inr (4, [.int 0, .int 0, .int 0, .int 0])), (q1, .inr (4, [.int 0, .int 0, .int 0, .int 0])), (q2, .inr (4, [.int 0, .int 0, .int 0, .int 0])), (q3, .inr (4, [.int 0, .int 0, .int 0, .int 0])), (q4, .inr (4, [.int 0, .int 0, .int 0, .int 0])), (q5, .inr (4, [.int 0, .int 0, .int 0, .int 0])), (q6, .inr (4, [.int 0, .int 0, .int 0, .int 0])), (q7, .inr (4, [.int 0, .int 0, .int 0, .int 0])), (q8, .inr (4, [.int 0, .int 0, .int 0, .int 0]))]) (TR := [(kst, .object RX4)]) (k := 0) (n := 0) Z12 [11] [0, 1, 2, 3, 4, 5, 6, 7, 8, 9, 10] [] [0] rfl rfl (by decide +kernel) (by decide +kernel) (by decide +kernel) rfl rfl (fun Zc => va_runV (As := []) (rest := []) X (c_draw l D nb ntx nst nct 0 0 3 0 0 10 0 0 0 0 (zz_nz 1) H9.size) (cwV 0 hts gX6_deal_X0_draw rfl rfl rfl ⟨rfl, zh_X0_draw⟩ ⟨Nat.le_of_ble_eq_true rfl, Nat.le_of_ble_eq_true rfl⟩) (zz_pV (ci := 0) Zc 0 rfl rfl) rfl rfl hl14.1 rfl (lv_room (Nat.le_of_ble_eq_true rfl)) dX6_deal_51 ⟨Nat.le_of_ble_eq_true rfl, Nat.le_of_ble_eq_true rfl⟩) rfl rfl (fun r13 u11 H15 locs16 hw12 Z17 => ?_)
      clear Z12
      subst r13
      have Z18 : zz_S D A s [(x, .inr (6, [.ref tx0, .ref nb, .ref tb, .ref ib, .ref ah, .ref tp, .ref rd, .ref sh, .ref sl, .ref wt, .int 0, .int 0, .int 0, .int 0, .int 0])), (nst, .inl (kst, 9, .inr (.inr (.inr (.inr sf))))), (q0, .inr (4, [.int 0, .int 0, .int 0, .int 0])), (q1, .inr (4, [.int 0, .int 0, .int 0, .int 0])), (q2, .inr (4, [.int 0, .int 0, .int 0, .int 0])), (q3, .inr (4, [.int 0, .int 0, .int 0, .int 0])), (q4, .inr (4, [.int 0, .int 0, .int 0, .int 0])), (q5, .inr (4, [.int 0, .int 0, .int 0, .int 0])), (q6, .inr (4, [.int 0, .int 0, .int 0, .int 0])), (q7, .inr (4, [.int 0, .int 0, .int 0, .int 0])), (q8, .inr (4, [.int 0, .int 0, .int 0, .int 0])), (nb, .inr (0, [.ref ntx, .ref nst, .ref nct, .int 0, .int 0, .int 3, .int 0, .int 0, .int 10, .int 0, .int 0, .int 0, .int 0, .int (zz_nz (zz_nz 1))]))] [(kst, .object RX4)] H15 locs16 := Z17
      clear Z17
      refine lv_bipush (v := 12) hx hb dX6_deal_54 (by decide) ?_
      refine lv_irem hx hb dX6_deal_56 (by decide) ?_
      refine lv_topi (fun y14 ey15 => ?_)
      refine lv_istore (lv' := [(5, .int y14), (4, .int y9), (3, .int 0), (2, .int n), (0, .ref x), (1, .int n)]) hx hb dX6_deal_57 hl14 (by decide) rfl (fun ls19 hl20 => ?_)
      clear hl14
      refine lv_aload_n hx hb dX6_deal_59 rfl (lv_at hl20 4 rfl) ?_
      refine zz_get X Z18 0 rfl rfl (fun w h => List.mem_cons_of_mem _ (List.mem_append_left _ (List.mem_append_left _ (List.mem_append_right _ h)))) 1 rfl (zz_m 2 rfl) rfl dX6_deal_60 ?_
      refine zz_ci (WC := [(nb, .inr (0, [.ref ntx, .ref nst, .ref nct, .int 0, .int 0, .int 3, .int 0, .int 0, .int 10, .int 0, .int 0, .int 0, .int 0, .int (zz_nz (zz_nz 1))]))]) (TC := []) (WR := [(x, .inr (6, [.ref tx0, .ref nb, .ref tb, .ref ib, .ref ah, .ref tp, .ref rd, .ref sh, .ref sl, .ref wt, .int 0, .int 0, .int 0, .int 0, .int 0])), (nst, .inl (kst, 9, .inr (.inr (.inr (.inr sf))))), (q0, .inr (4, [.int 0, .int 0, .int 0, .int 0])), (q1, .inr (4, [.int 0, .int 0, .int 0, .int 0])), (q2, .inr (4, [.int 0, .int 0, .int 0, .int 0])), (q3, .inr (4, [.int 0, .int 0, .int 0, .int 0])), (q4, .inr (4, [.int 0, .int 0, .int 0, .int 0])), (q5, .inr (4, [.int 0, .int 0, .int 0, .int 0])), (q6, .inr (4, [.int 0, .int 0, .int 0, .int 0])), (q7, .inr (4, [.int 0, .int 0, .int 0, .int 0])), (q8, .inr (4, [.int 0, .int 0, .int 0, .int 0]))]) (TR := [(kst, .object RX4)]) (k := 0) (n := 0) Z18 [11] [0, 1, 2, 3, 4, 5, 6, 7, 8, 9, 10] [] [0] rfl rfl (by decide +kernel) (by decide +kernel) (by decide +kernel) rfl rfl (fun Zc => va_runV (As := []) (rest := []) X (c_draw l D nb ntx nst nct 0 0 3 0 0 10 0 0 0 0 (zz_nz (zz_nz 1)) H15.size) (cwV 0 hts gX6_deal_X0_draw rfl rfl rfl ⟨rfl, zh_X0_draw⟩ ⟨Nat.le_of_ble_eq_true rfl, Nat.le_of_ble_eq_true rfl⟩) (zz_pV (ci := 0) Zc 0 rfl rfl) rfl rfl hl20.1 rfl (lv_room (Nat.le_of_ble_eq_true rfl)) dX6_deal_63 ⟨Nat.le_of_ble_eq_true rfl, Nat.le_of_ble_eq_true rfl⟩) rfl rfl (fun r18 u16 H21 locs22 hw17 Z23 => ?_)
      clear Z18
      subst r18
      have Z24 : zz_S D A s [(x, .inr (6, [.ref tx0, .ref nb, .ref tb, .ref ib, .ref ah, .ref tp, .ref rd, .ref sh, .ref sl, .ref wt, .int 0, .int 0, .int 0, .int 0, .int 0])), (nst, .inl (kst, 9, .inr (.inr (.inr (.inr sf))))), (q0, .inr (4, [.int 0, .int 0, .int 0, .int 0])), (q1, .inr (4, [.int 0, .int 0, .int 0, .int 0])), (q2, .inr (4, [.int 0, .int 0, .int 0, .int 0])), (q3, .inr (4, [.int 0, .int 0, .int 0, .int 0])), (q4, .inr (4, [.int 0, .int 0, .int 0, .int 0])), (q5, .inr (4, [.int 0, .int 0, .int 0, .int 0])), (q6, .inr (4, [.int 0, .int 0, .int 0, .int 0])), (q7, .inr (4, [.int 0, .int 0, .int 0, .int 0])), (q8, .inr (4, [.int 0, .int 0, .int 0, .int 0])), (nb, .inr (0, [.ref ntx, .ref nst, .ref nct, .int 0, .int 0, .int 3, .int 0, .int 0, .int 10, .int 0, .int 0, .int 0, .int 0, .int (zz_nz (zz_nz (zz_nz 1)))]))] [(kst, .object RX4)] H21 locs22 := Z23
      clear Z23
      refine lv_bipush (v := 40) hx hb dX6_deal_66 (by decide) ?_
      refine lv_irem hx hb dX6_deal_68 (by decide) ?_
      refine lv_topi (fun y19 ey20 => ?_)
      refine lv_istore (lv' := [(6, .int y19), (5, .int y14), (4, .int y9), (3, .int 0), (2, .int n), (0, .ref x), (1, .int n)]) hx hb dX6_deal_69 hl20 (by decide) rfl (fun ls25 hl26 => ?_)
      clear hl20
      refine lv_aload_n hx hb dX6_deal_71 rfl (lv_at hl26 5 rfl) ?_
      refine zz_get X Z24 0 rfl rfl (fun w h => List.mem_cons_of_mem _ (List.mem_append_left _ (List.mem_append_left _ (List.mem_append_right _ h)))) 1 rfl (zz_m 2 rfl) rfl dX6_deal_72 ?_
      refine lv_iload hx hb dX6_deal_75 (lv_at hl26 2 rfl) ?_
      refine lv_iload hx hb dX6_deal_77 (lv_at hl26 1 rfl) ?_
      refine lv_iload hx hb dX6_deal_79 (lv_at hl26 0 rfl) ?_
      refine zz_ci (WC := [(nb, .inr (0, [.ref ntx, .ref nst, .ref nct, .int 0, .int 0, .int 3, .int 0, .int 0, .int 10, .int 0, .int 0, .int 0, .int 0, .int (zz_nz (zz_nz (zz_nz 1)))])), (nst, .inl (kst, 9, .inr (.inr (.inr (.inr sf))))), (q0, .inr (4, [.int 0, .int 0, .int 0, .int 0]))]) (TC := [(kst, .object RX4)]) (WR := [(x, .inr (6, [.ref tx0, .ref nb, .ref tb, .ref ib, .ref ah, .ref tp, .ref rd, .ref sh, .ref sl, .ref wt, .int 0, .int 0, .int 0, .int 0, .int 0])), (q1, .inr (4, [.int 0, .int 0, .int 0, .int 0])), (q2, .inr (4, [.int 0, .int 0, .int 0, .int 0])), (q3, .inr (4, [.int 0, .int 0, .int 0, .int 0])), (q4, .inr (4, [.int 0, .int 0, .int 0, .int 0])), (q5, .inr (4, [.int 0, .int 0, .int 0, .int 0])), (q6, .inr (4, [.int 0, .int 0, .int 0, .int 0])), (q7, .inr (4, [.int 0, .int 0, .int 0, .int 0])), (q8, .inr (4, [.int 0, .int 0, .int 0, .int 0]))]) (TR := []) (k := 0) (n := 0) Z24 [11, 1, 2] [0, 3, 4, 5, 6, 7, 8, 9, 10] [0] [] rfl rfl (by decide +kernel) (by decide +kernel) (by decide +kernel) rfl rfl (fun Zc => va_runV (As := [.int y9, .int y14, .int y19]) (rest := []) X (c_open l D nb ntx nst nct 0 0 3 0 0 10 0 0 0 0 (zz_nz (zz_nz (zz_nz 1))) kst sf q0 0 0 0 0 y9 y14 y19 (by decide) (zz_in 0 9 rfl) asf_0 H21.size) (cwV 3 hts gX6_deal_X0_open rfl rfl rfl ⟨rfl, zh_X0_open⟩ ⟨Nat.le_of_ble_eq_true rfl, Nat.le_of_ble_eq_true rfl⟩) (zz_pV (ci := 0) Zc 0 rfl rfl) rfl rfl hl26.1 rfl (lv_room (Nat.le_of_ble_eq_true rfl)) dX6_deal_81 ⟨Nat.le_of_ble_eq_true rfl, Nat.le_of_ble_eq_true rfl⟩) rfl rfl (fun r23 u21 H27 locs28 hw22 Z29 => ?_)
      clear Z24
      have hw22 : r23 = 0 := hw22.trans (by decide)
      subst r23
      have Z30 : zz_S D A s [(x, .inr (6, [.ref tx0, .ref nb, .ref tb, .ref ib, .ref ah, .ref tp, .ref rd, .ref sh, .ref sl, .ref wt, .int 0, .int 0, .int 0, .int 0, .int 0])), (q1, .inr (4, [.int 0, .int 0, .int 0, .int 0])), (q2, .inr (4, [.int 0, .int 0, .int 0, .int 0])), (q3, .inr (4, [.int 0, .int 0, .int 0, .int 0])), (q4, .inr (4, [.int 0, .int 0, .int 0, .int 0])), (q5, .inr (4, [.int 0, .int 0, .int 0, .int 0])), (q6, .inr (4, [.int 0, .int 0, .int 0, .int 0])), (q7, .inr (4, [.int 0, .int 0, .int 0, .int 0])), (q8, .inr (4, [.int 0, .int 0, .int 0, .int 0])), (nb, .inr (0, [.ref ntx, .ref nst, .ref nct, .int 1, .int 0, .int 3, .int 0, .int 0, .int 10, .int 0, .int 0, .int 0, .int 0, .int (zz_nz (zz_nz (zz_nz 1)))])), (nst, .inl (kst, 9, .inr (.inr (.inr (.inr sf))))), (q0, .inr (4, [.int y9, .int y14, .int 100, .int y19]))] [(kst, .object RX4)] H27 locs28 := Z29
      clear Z29
      refine lv_pop hx hb dX6_deal_84 rfl ?_
      refine lv_iinc (v := 1) (lv' := [(3, .int 1), (6, .int y19), (5, .int y14), (4, .int y9), (2, .int n), (0, .ref x), (1, .int n)]) hx hb dX6_deal_85 hl26 (k := 3) rfl (by decide) (by decide) rfl (fun ls31 hl32 => ?_)
      clear hl26
      refine lv_goto (tgt := 30) hx hb dX6_deal_88 (by decide) ?_
      refine lv_iload_n hx hb dX6_deal_30 rfl (lv_at hl32 0 rfl) ?_
      refine lv_iload_n hx hb dX6_deal_31 rfl (lv_at hl32 4 rfl) ?_
      refine lv_icmp_ge (tgt := 91) hx hb dX6_deal_32 (by decide) (fun b24 => ?_) (fun b24 => ?_)
      · refine lv_iload_n hx hb dX6_deal_91 rfl (lv_at hl32 4 rfl) ?_
        exact zz_iret X hr hlk Z30 () (if_pos w4).symm [] [] (by decide +kernel) rfl rfl dX6_deal_92
      · refine lv_aload_n hx hb dX6_deal_35 rfl (lv_at hl32 5 rfl) ?_
        refine zz_get X Z30 0 rfl rfl (fun w h => List.mem_cons_of_mem _ (List.mem_append_left _ (List.mem_append_left _ (List.mem_append_right _ h)))) 1 rfl (zz_m 2 rfl) rfl dX6_deal_36 ?_
        refine zz_ci (WC := [(nb, .inr (0, [.ref ntx, .ref nst, .ref nct, .int 1, .int 0, .int 3, .int 0, .int 0, .int 10, .int 0, .int 0, .int 0, .int 0, .int (zz_nz (zz_nz (zz_nz 1)))]))]) (TC := []) (WR := [(x, .inr (6, [.ref tx0, .ref nb, .ref tb, .ref ib, .ref ah, .ref tp, .ref rd, .ref sh, .ref sl, .ref wt, .int 0, .int 0, .int 0, .int 0, .int 0])), (q1, .inr (4, [.int 0, .int 0, .int 0, .int 0])), (q2, .inr (4, [.int 0, .int 0, .int 0, .int 0])), (q3, .inr (4, [.int 0, .int 0, .int 0, .int 0])), (q4, .inr (4, [.int 0, .int 0, .int 0, .int 0])), (q5, .inr (4, [.int 0, .int 0, .int 0, .int 0])), (q6, .inr (4, [.int 0, .int 0, .int 0, .int 0])), (q7, .inr (4, [.int 0, .int 0, .int 0, .int 0])), (q8, .inr (4, [.int 0, .int 0, .int 0, .int 0])), (nst, .inl (kst, 9, .inr (.inr (.inr (.inr sf))))), (q0, .inr (4, [.int y9, .int y14, .int 100, .int y19]))]) (TR := [(kst, .object RX4)]) (k := 0) (n := 0) Z30 [9] [0, 1, 2, 3, 4, 5, 6, 7, 8, 10, 11] [] [0] rfl rfl (by decide +kernel) (by decide +kernel) (by decide +kernel) rfl rfl (fun Zc => va_runV (As := []) (rest := []) X (c_draw l D nb ntx nst nct 1 0 3 0 0 10 0 0 0 0 (zz_nz (zz_nz (zz_nz 1))) H27.size) (cwV 0 hts gX6_deal_X0_draw rfl rfl rfl ⟨rfl, zh_X0_draw⟩ ⟨Nat.le_of_ble_eq_true rfl, Nat.le_of_ble_eq_true rfl⟩) (zz_pV (ci := 0) Zc 0 rfl rfl) rfl rfl hl32.1 rfl (lv_room (Nat.le_of_ble_eq_true rfl)) dX6_deal_39 ⟨Nat.le_of_ble_eq_true rfl, Nat.le_of_ble_eq_true rfl⟩) rfl rfl (fun r27 u25 H33 locs34 hw26 Z35 => ?_)
        clear Z30
        subst r27
        have Z36 : zz_S D A s [(x, .inr (6, [.ref tx0, .ref nb, .ref tb, .ref ib, .ref ah, .ref tp, .ref rd, .ref sh, .ref sl, .ref wt, .int 0, .int 0, .int 0, .int 0, .int 0])), (q1, .inr (4, [.int 0, .int 0, .int 0, .int 0])), (q2, .inr (4, [.int 0, .int 0, .int 0, .int 0])), (q3, .inr (4, [.int 0, .int 0, .int 0, .int 0])), (q4, .inr (4, [.int 0, .int 0, .int 0, .int 0])), (q5, .inr (4, [.int 0, .int 0, .int 0, .int 0])), (q6, .inr (4, [.int 0, .int 0, .int 0, .int 0])), (q7, .inr (4, [.int 0, .int 0, .int 0, .int 0])), (q8, .inr (4, [.int 0, .int 0, .int 0, .int 0])), (nst, .inl (kst, 9, .inr (.inr (.inr (.inr sf))))), (q0, .inr (4, [.int y9, .int y14, .int 100, .int y19])), (nb, .inr (0, [.ref ntx, .ref nst, .ref nct, .int 1, .int 0, .int 3, .int 0, .int 0, .int 10, .int 0, .int 0, .int 0, .int 0, .int (zz_nz (zz_nz (zz_nz (zz_nz 1))))]))] [(kst, .object RX4)] H33 locs34 := Z35
        clear Z35
        refine lv_bipush (v := 6) hx hb dX6_deal_42 (by decide) ?_
        refine lv_irem hx hb dX6_deal_44 (by decide) ?_
        refine lv_topi (fun y28 ey29 => ?_)
        refine lv_istore (lv' := [(4, .int y28), (3, .int 1), (6, .int y19), (5, .int y14), (2, .int n), (0, .ref x), (1, .int n)]) hx hb dX6_deal_45 hl32 (by decide) rfl (fun ls37 hl38 => ?_)
        clear hl32
        refine lv_aload_n hx hb dX6_deal_47 rfl (lv_at hl38 5 rfl) ?_
        refine zz_get X Z36 0 rfl rfl (fun w h => List.mem_cons_of_mem _ (List.mem_append_left _ (List.mem_append_left _ (List.mem_append_right _ h)))) 1 rfl (zz_m 2 rfl) rfl dX6_deal_48 ?_
        refine zz_ci (WC := [(nb, .inr (0, [.ref ntx, .ref nst, .ref nct, .int 1, .int 0, .int 3, .int 0, .int 0, .int 10, .int 0, .int 0, .int 0, .int 0, .int (zz_nz (zz_nz (zz_nz (zz_nz 1))))]))]) (TC := []) (WR := [(x, .inr (6, [.ref tx0, .ref nb, .ref tb, .ref ib, .ref ah, .ref tp, .ref rd, .ref sh, .ref sl, .ref wt, .int 0, .int 0, .int 0, .int 0, .int 0])), (q1, .inr (4, [.int 0, .int 0, .int 0, .int 0])), (q2, .inr (4, [.int 0, .int 0, .int 0, .int 0])), (q3, .inr (4, [.int 0, .int 0, .int 0, .int 0])), (q4, .inr (4, [.int 0, .int 0, .int 0, .int 0])), (q5, .inr (4, [.int 0, .int 0, .int 0, .int 0])), (q6, .inr (4, [.int 0, .int 0, .int 0, .int 0])), (q7, .inr (4, [.int 0, .int 0, .int 0, .int 0])), (q8, .inr (4, [.int 0, .int 0, .int 0, .int 0])), (nst, .inl (kst, 9, .inr (.inr (.inr (.inr sf))))), (q0, .inr (4, [.int y9, .int y14, .int 100, .int y19]))]) (TR := [(kst, .object RX4)]) (k := 0) (n := 0) Z36 [11] [0, 1, 2, 3, 4, 5, 6, 7, 8, 9, 10] [] [0] rfl rfl (by decide +kernel) (by decide +kernel) (by decide +kernel) rfl rfl (fun Zc => va_runV (As := []) (rest := []) X (c_draw l D nb ntx nst nct 1 0 3 0 0 10 0 0 0 0 (zz_nz (zz_nz (zz_nz (zz_nz 1)))) H33.size) (cwV 0 hts gX6_deal_X0_draw rfl rfl rfl ⟨rfl, zh_X0_draw⟩ ⟨Nat.le_of_ble_eq_true rfl, Nat.le_of_ble_eq_true rfl⟩) (zz_pV (ci := 0) Zc 0 rfl rfl) rfl rfl hl38.1 rfl (lv_room (Nat.le_of_ble_eq_true rfl)) dX6_deal_51 ⟨Nat.le_of_ble_eq_true rfl, Nat.le_of_ble_eq_true rfl⟩) rfl rfl (fun r32 u30 H39 locs40 hw31 Z41 => ?_)
        clear Z36
        subst r32
        have Z42 : zz_S D A s [(x, .inr (6, [.ref tx0, .ref nb, .ref tb, .ref ib, .ref ah, .ref tp, .ref rd, .ref sh, .ref sl, .ref wt, .int 0, .int 0, .int 0, .int 0, .int 0])), (q1, .inr (4, [.int 0, .int 0, .int 0, .int 0])), (q2, .inr (4, [.int 0, .int 0, .int 0, .int 0])), (q3, .inr (4, [.int 0, .int 0, .int 0, .int 0])), (q4, .inr (4, [.int 0, .int 0, .int 0, .int 0])), (q5, .inr (4, [.int 0, .int 0, .int 0, .int 0])), (q6, .inr (4, [.int 0, .int 0, .int 0, .int 0])), (q7, .inr (4, [.int 0, .int 0, .int 0, .int 0])), (q8, .inr (4, [.int 0, .int 0, .int 0, .int 0])), (nst, .inl (kst, 9, .inr (.inr (.inr (.inr sf))))), (q0, .inr (4, [.int y9, .int y14, .int 100, .int y19])), (nb, .inr (0, [.ref ntx, .ref nst, .ref nct, .int 1, .int 0, .int 3, .int 0, .int 0, .int 10, .int 0, .int 0, .int 0, .int 0, .int (zz_nz (zz_nz (zz_nz (zz_nz (zz_nz 1)))))]))] [(kst, .object RX4)] H39 locs40 := Z41
        clear Z41
        refine lv_bipush (v := 12) hx hb dX6_deal_54 (by decide) ?_
        refine lv_irem hx hb dX6_deal_56 (by decide) ?_
        refine lv_topi (fun y33 ey34 => ?_)
        refine lv_istore (lv' := [(5, .int y33), (4, .int y28), (3, .int 1), (6, .int y19), (2, .int n), (0, .ref x), (1, .int n)]) hx hb dX6_deal_57 hl38 (by decide) rfl (fun ls43 hl44 => ?_)
        clear hl38
        refine lv_aload_n hx hb dX6_deal_59 rfl (lv_at hl44 5 rfl) ?_
        refine zz_get X Z42 0 rfl rfl (fun w h => List.mem_cons_of_mem _ (List.mem_append_left _ (List.mem_append_left _ (List.mem_append_right _ h)))) 1 rfl (zz_m 2 rfl) rfl dX6_deal_60 ?_
        refine zz_ci (WC := [(nb, .inr (0, [.ref ntx, .ref nst, .ref nct, .int 1, .int 0, .int 3, .int 0, .int 0, .int 10, .int 0, .int 0, .int 0, .int 0, .int (zz_nz (zz_nz (zz_nz (zz_nz (zz_nz 1)))))]))]) (TC := []) (WR := [(x, .inr (6, [.ref tx0, .ref nb, .ref tb, .ref ib, .ref ah, .ref tp, .ref rd, .ref sh, .ref sl, .ref wt, .int 0, .int 0, .int 0, .int 0, .int 0])), (q1, .inr (4, [.int 0, .int 0, .int 0, .int 0])), (q2, .inr (4, [.int 0, .int 0, .int 0, .int 0])), (q3, .inr (4, [.int 0, .int 0, .int 0, .int 0])), (q4, .inr (4, [.int 0, .int 0, .int 0, .int 0])), (q5, .inr (4, [.int 0, .int 0, .int 0, .int 0])), (q6, .inr (4, [.int 0, .int 0, .int 0, .int 0])), (q7, .inr (4, [.int 0, .int 0, .int 0, .int 0])), (q8, .inr (4, [.int 0, .int 0, .int 0, .int 0])), (nst, .inl (kst, 9, .inr (.inr (.inr (.inr sf))))), (q0, .inr (4, [.int y9, .int y14, .int 100, .int y19]))]) (TR := [(kst, .object RX4)]) (k := 0) (n := 0) Z42 [11] [0, 1, 2, 3, 4, 5, 6, 7, 8, 9, 10] [] [0] rfl rfl (by decide +kernel) (by decide +kernel) (by decide +kernel) rfl rfl (fun Zc => va_runV (As := []) (rest := []) X (c_draw l D nb ntx nst nct 1 0 3 0 0 10 0 0 0 0 (zz_nz (zz_nz (zz_nz (zz_nz (zz_nz 1))))) H39.size) (cwV 0 hts gX6_deal_X0_draw rfl rfl rfl ⟨rfl, zh_X0_draw⟩ ⟨Nat.le_of_ble_eq_true rfl, Nat.le_of_ble_eq_true rfl⟩) (zz_pV (ci := 0) Zc 0 rfl rfl) rfl rfl hl44.1 rfl (lv_room (Nat.le_of_ble_eq_true rfl)) dX6_deal_63 ⟨Nat.le_of_ble_eq_true rfl, Nat.le_of_ble_eq_true rfl⟩) rfl rfl (fun r37 u35 H45 locs46 hw36 Z47 => ?_)
        clear Z42
        subst r37
        have Z48 : zz_S D A s [(x, .inr (6, [.ref tx0, .ref nb, .ref tb, .ref ib, .ref ah, .ref tp, .ref rd, .ref sh, .ref sl, .ref wt, .int 0, .int 0, .int 0, .int 0, .int 0])), (q1, .inr (4, [.int 0, .int 0, .int 0, .int 0])), (q2, .inr (4, [.int 0, .int 0, .int 0, .int 0])), (q3, .inr (4, [.int 0, .int 0, .int 0, .int 0])), (q4, .inr (4, [.int 0, .int 0, .int 0, .int 0])), (q5, .inr (4, [.int 0, .int 0, .int 0, .int 0])), (q6, .inr (4, [.int 0, .int 0, .int 0, .int 0])), (q7, .inr (4, [.int 0, .int 0, .int 0, .int 0])), (q8, .inr (4, [.int 0, .int 0, .int 0, .int 0])), (nst, .inl (kst, 9, .inr (.inr (.inr (.inr sf))))), (q0, .inr (4, [.int y9, .int y14, .int 100, .int y19])), (nb, .inr (0, [.ref ntx, .ref nst, .ref nct, .int 1, .int 0, .int 3, .int 0, .int 0, .int 10, .int 0, .int 0, .int 0, .int 0, .int (zz_nz (zz_nz (zz_nz (zz_nz (zz_nz (zz_nz 1))))))]))] [(kst, .object RX4)] H45 locs46 := Z47
        clear Z47
        refine lv_bipush (v := 40) hx hb dX6_deal_66 (by decide) ?_
        refine lv_irem hx hb dX6_deal_68 (by decide) ?_
        refine lv_topi (fun y38 ey39 => ?_)
        refine lv_istore (lv' := [(6, .int y38), (5, .int y33), (4, .int y28), (3, .int 1), (2, .int n), (0, .ref x), (1, .int n)]) hx hb dX6_deal_69 hl44 (by decide) rfl (fun ls49 hl50 => ?_)
        clear hl44
        refine lv_aload_n hx hb dX6_deal_71 rfl (lv_at hl50 5 rfl) ?_
        refine zz_get X Z48 0 rfl rfl (fun w h => List.mem_cons_of_mem _ (List.mem_append_left _ (List.mem_append_left _ (List.mem_append_right _ h)))) 1 rfl (zz_m 2 rfl) rfl dX6_deal_72 ?_
        refine lv_iload hx hb dX6_deal_75 (lv_at hl50 2 rfl) ?_
        refine lv_iload hx hb dX6_deal_77 (lv_at hl50 1 rfl) ?_
        refine lv_iload hx hb dX6_deal_79 (lv_at hl50 0 rfl) ?_
        refine zz_ci (WC := [(nb, .inr (0, [.ref ntx, .ref nst, .ref nct, .int 1, .int 0, .int 3, .int 0, .int 0, .int 10, .int 0, .int 0, .int 0, .int 0, .int (zz_nz (zz_nz (zz_nz (zz_nz (zz_nz (zz_nz 1))))))])), (nst, .inl (kst, 9, .inr (.inr (.inr (.inr sf))))), (q1, .inr (4, [.int 0, .int 0, .int 0, .int 0]))]) (TC := [(kst, .object RX4)]) (WR := [(x, .inr (6, [.ref tx0, .ref nb, .ref tb, .ref ib, .ref ah, .ref tp, .ref rd, .ref sh, .ref sl, .ref wt, .int 0, .int 0, .int 0, .int 0, .int 0])), (q2, .inr (4, [.int 0, .int 0, .int 0, .int 0])), (q3, .inr (4, [.int 0, .int 0, .int 0, .int 0])), (q4, .inr (4, [.int 0, .int 0, .int 0, .int 0])), (q5, .inr (4, [.int 0, .int 0, .int 0, .int 0])), (q6, .inr (4, [.int 0, .int 0, .int 0, .int 0])), (q7, .inr (4, [.int 0, .int 0, .int 0, .int 0])), (q8, .inr (4, [.int 0, .int 0, .int 0, .int 0])), (q0, .inr (4, [.int y9, .int y14, .int 100, .int y19]))]) (TR := []) (k := 0) (n := 0) Z48 [11, 9, 1] [0, 2, 3, 4, 5, 6, 7, 8, 10] [0] [] rfl rfl (by decide +kernel) (by decide +kernel) (by decide +kernel) rfl rfl (fun Zc => va_runV (As := [.int y28, .int y33, .int y38]) (rest := []) X (c_open l D nb ntx nst nct 1 0 3 0 0 10 0 0 0 0 (zz_nz (zz_nz (zz_nz (zz_nz (zz_nz (zz_nz 1)))))) kst sf q1 0 0 0 0 y28 y33 y38 (by decide) (zz_in 1 9 rfl) asf_1 H45.size) (cwV 3 hts gX6_deal_X0_open rfl rfl rfl ⟨rfl, zh_X0_open⟩ ⟨Nat.le_of_ble_eq_true rfl, Nat.le_of_ble_eq_true rfl⟩) (zz_pV (ci := 0) Zc 0 rfl rfl) rfl rfl hl50.1 rfl (lv_room (Nat.le_of_ble_eq_true rfl)) dX6_deal_81 ⟨Nat.le_of_ble_eq_true rfl, Nat.le_of_ble_eq_true rfl⟩) rfl rfl (fun r42 u40 H51 locs52 hw41 Z53 => ?_)
        clear Z48
        have hw41 : r42 = 1 := hw41.trans (by decide)
        subst r42
        have Z54 : zz_S D A s [(x, .inr (6, [.ref tx0, .ref nb, .ref tb, .ref ib, .ref ah, .ref tp, .ref rd, .ref sh, .ref sl, .ref wt, .int 0, .int 0, .int 0, .int 0, .int 0])), (q2, .inr (4, [.int 0, .int 0, .int 0, .int 0])), (q3, .inr (4, [.int 0, .int 0, .int 0, .int 0])), (q4, .inr (4, [.int 0, .int 0, .int 0, .int 0])), (q5, .inr (4, [.int 0, .int 0, .int 0, .int 0])), (q6, .inr (4, [.int 0, .int 0, .int 0, .int 0])), (q7, .inr (4, [.int 0, .int 0, .int 0, .int 0])), (q8, .inr (4, [.int 0, .int 0, .int 0, .int 0])), (q0, .inr (4, [.int y9, .int y14, .int 100, .int y19])), (nb, .inr (0, [.ref ntx, .ref nst, .ref nct, .int 2, .int 0, .int 3, .int 0, .int 0, .int 10, .int 0, .int 0, .int 0, .int 0, .int (zz_nz (zz_nz (zz_nz (zz_nz (zz_nz (zz_nz 1))))))])), (nst, .inl (kst, 9, .inr (.inr (.inr (.inr sf))))), (q1, .inr (4, [.int y28, .int y33, .int 100, .int y38]))] [(kst, .object RX4)] H51 locs52 := Z53
        clear Z53
        refine lv_pop hx hb dX6_deal_84 rfl ?_
        refine lv_iinc (v := 2) (lv' := [(3, .int 2), (6, .int y38), (5, .int y33), (4, .int y28), (2, .int n), (0, .ref x), (1, .int n)]) hx hb dX6_deal_85 hl50 (k := 3) rfl (by decide) (by decide) rfl (fun ls55 hl56 => ?_)
        clear hl50
        refine lv_goto (tgt := 30) hx hb dX6_deal_88 (by decide) ?_
        refine lv_iload_n hx hb dX6_deal_30 rfl (lv_at hl56 0 rfl) ?_
        refine lv_iload_n hx hb dX6_deal_31 rfl (lv_at hl56 4 rfl) ?_
        refine lv_icmp_ge (tgt := 91) hx hb dX6_deal_32 (by decide) (fun b43 => ?_) (fun b43 => ?_)
        · refine lv_iload_n hx hb dX6_deal_91 rfl (lv_at hl56 4 rfl) ?_
          exact zz_iret X hr hlk Z54 () (if_pos w4).symm [] [] (by decide +kernel) rfl rfl dX6_deal_92
        · refine lv_aload_n hx hb dX6_deal_35 rfl (lv_at hl56 5 rfl) ?_
          refine zz_get X Z54 0 rfl rfl (fun w h => List.mem_cons_of_mem _ (List.mem_append_left _ (List.mem_append_left _ (List.mem_append_right _ h)))) 1 rfl (zz_m 2 rfl) rfl dX6_deal_36 ?_
          refine zz_ci (WC := [(nb, .inr (0, [.ref ntx, .ref nst, .ref nct, .int 2, .int 0, .int 3, .int 0, .int 0, .int 10, .int 0, .int 0, .int 0, .int 0, .int (zz_nz (zz_nz (zz_nz (zz_nz (zz_nz (zz_nz 1))))))]))]) (TC := []) (WR := [(x, .inr (6, [.ref tx0, .ref nb, .ref tb, .ref ib, .ref ah, .ref tp, .ref rd, .ref sh, .ref sl, .ref wt, .int 0, .int 0, .int 0, .int 0, .int 0])), (q2, .inr (4, [.int 0, .int 0, .int 0, .int 0])), (q3, .inr (4, [.int 0, .int 0, .int 0, .int 0])), (q4, .inr (4, [.int 0, .int 0, .int 0, .int 0])), (q5, .inr (4, [.int 0, .int 0, .int 0, .int 0])), (q6, .inr (4, [.int 0, .int 0, .int 0, .int 0])), (q7, .inr (4, [.int 0, .int 0, .int 0, .int 0])), (q8, .inr (4, [.int 0, .int 0, .int 0, .int 0])), (q0, .inr (4, [.int y9, .int y14, .int 100, .int y19])), (nst, .inl (kst, 9, .inr (.inr (.inr (.inr sf))))), (q1, .inr (4, [.int y28, .int y33, .int 100, .int y38]))]) (TR := [(kst, .object RX4)]) (k := 0) (n := 0) Z54 [9] [0, 1, 2, 3, 4, 5, 6, 7, 8, 10, 11] [] [0] rfl rfl (by decide +kernel) (by decide +kernel) (by decide +kernel) rfl rfl (fun Zc => va_runV (As := []) (rest := []) X (c_draw l D nb ntx nst nct 2 0 3 0 0 10 0 0 0 0 (zz_nz (zz_nz (zz_nz (zz_nz (zz_nz (zz_nz 1)))))) H51.size) (cwV 0 hts gX6_deal_X0_draw rfl rfl rfl ⟨rfl, zh_X0_draw⟩ ⟨Nat.le_of_ble_eq_true rfl, Nat.le_of_ble_eq_true rfl⟩) (zz_pV (ci := 0) Zc 0 rfl rfl) rfl rfl hl56.1 rfl (lv_room (Nat.le_of_ble_eq_true rfl)) dX6_deal_39 ⟨Nat.le_of_ble_eq_true rfl, Nat.le_of_ble_eq_true rfl⟩) rfl rfl (fun r46 u44 H57 locs58 hw45 Z59 => ?_)
          clear Z54
          subst r46
          have Z60 : zz_S D A s [(x, .inr (6, [.ref tx0, .ref nb, .ref tb, .ref ib, .ref ah, .ref tp, .ref rd, .ref sh, .ref sl, .ref wt, .int 0, .int 0, .int 0, .int 0, .int 0])), (q2, .inr (4, [.int 0, .int 0, .int 0, .int 0])), (q3, .inr (4, [.int 0, .int 0, .int 0, .int 0])), (q4, .inr (4, [.int 0, .int 0, .int 0, .int 0])), (q5, .inr (4, [.int 0, .int 0, .int 0, .int 0])), (q6, .inr (4, [.int 0, .int 0, .int 0, .int 0])), (q7, .inr (4, [.int 0, .int 0, .int 0, .int 0])), (q8, .inr (4, [.int 0, .int 0, .int 0, .int 0])), (q0, .inr (4, [.int y9, .int y14, .int 100, .int y19])), (nst, .inl (kst, 9, .inr (.inr (.inr (.inr sf))))), (q1, .inr (4, [.int y28, .int y33, .int 100, .int y38])), (nb, .inr (0, [.ref ntx, .ref nst, .ref nct, .int 2, .int 0, .int 3, .int 0, .int 0, .int 10, .int 0, .int 0, .int 0, .int 0, .int (zz_nz (zz_nz (zz_nz (zz_nz (zz_nz (zz_nz (zz_nz 1)))))))]))] [(kst, .object RX4)] H57 locs58 := Z59
          clear Z59
          refine lv_bipush (v := 6) hx hb dX6_deal_42 (by decide) ?_
          refine lv_irem hx hb dX6_deal_44 (by decide) ?_
          refine lv_topi (fun y47 ey48 => ?_)
          refine lv_istore (lv' := [(4, .int y47), (3, .int 2), (6, .int y38), (5, .int y33), (2, .int n), (0, .ref x), (1, .int n)]) hx hb dX6_deal_45 hl56 (by decide) rfl (fun ls61 hl62 => ?_)
          clear hl56
          refine lv_aload_n hx hb dX6_deal_47 rfl (lv_at hl62 5 rfl) ?_
          refine zz_get X Z60 0 rfl rfl (fun w h => List.mem_cons_of_mem _ (List.mem_append_left _ (List.mem_append_left _ (List.mem_append_right _ h)))) 1 rfl (zz_m 2 rfl) rfl dX6_deal_48 ?_
          refine zz_ci (WC := [(nb, .inr (0, [.ref ntx, .ref nst, .ref nct, .int 2, .int 0, .int 3, .int 0, .int 0, .int 10, .int 0, .int 0, .int 0, .int 0, .int (zz_nz (zz_nz (zz_nz (zz_nz (zz_nz (zz_nz (zz_nz 1)))))))]))]) (TC := []) (WR := [(x, .inr (6, [.ref tx0, .ref nb, .ref tb, .ref ib, .ref ah, .ref tp, .ref rd, .ref sh, .ref sl, .ref wt, .int 0, .int 0, .int 0, .int 0, .int 0])), (q2, .inr (4, [.int 0, .int 0, .int 0, .int 0])), (q3, .inr (4, [.int 0, .int 0, .int 0, .int 0])), (q4, .inr (4, [.int 0, .int 0, .int 0, .int 0])), (q5, .inr (4, [.int 0, .int 0, .int 0, .int 0])), (q6, .inr (4, [.int 0, .int 0, .int 0, .int 0])), (q7, .inr (4, [.int 0, .int 0, .int 0, .int 0])), (q8, .inr (4, [.int 0, .int 0, .int 0, .int 0])), (q0, .inr (4, [.int y9, .int y14, .int 100, .int y19])), (nst, .inl (kst, 9, .inr (.inr (.inr (.inr sf))))), (q1, .inr (4, [.int y28, .int y33, .int 100, .int y38]))]) (TR := [(kst, .object RX4)]) (k := 0) (n := 0) Z60 [11] [0, 1, 2, 3, 4, 5, 6, 7, 8, 9, 10] [] [0] rfl rfl (by decide +kernel) (by decide +kernel) (by decide +kernel) rfl rfl (fun Zc => va_runV (As := []) (rest := []) X (c_draw l D nb ntx nst nct 2 0 3 0 0 10 0 0 0 0 (zz_nz (zz_nz (zz_nz (zz_nz (zz_nz (zz_nz (zz_nz 1))))))) H57.size) (cwV 0 hts gX6_deal_X0_draw rfl rfl rfl ⟨rfl, zh_X0_draw⟩ ⟨Nat.le_of_ble_eq_true rfl, Nat.le_of_ble_eq_true rfl⟩) (zz_pV (ci := 0) Zc 0 rfl rfl) rfl rfl hl62.1 rfl (lv_room (Nat.le_of_ble_eq_true rfl)) dX6_deal_51 ⟨Nat.le_of_ble_eq_true rfl, Nat.le_of_ble_eq_true rfl⟩) rfl rfl (fun r51 u49 H63 locs64 hw50 Z65 => ?_)
          clear Z60
          subst r51
          have Z66 : zz_S D A s [(x, .inr (6, [.ref tx0, .ref nb, .ref tb, .ref ib, .ref ah, .ref tp, .ref rd, .ref sh, .ref sl, .ref wt, .int 0, .int 0, .int 0, .int 0, .int 0])), (q2, .inr (4, [.int 0, .int 0, .int 0, .int 0])), (q3, .inr (4, [.int 0, .int 0, .int 0, .int 0])), (q4, .inr (4, [.int 0, .int 0, .int 0, .int 0])), (q5, .inr (4, [.int 0, .int 0, .int 0, .int 0])), (q6, .inr (4, [.int 0, .int 0, .int 0, .int 0])), (q7, .inr (4, [.int 0, .int 0, .int 0, .int 0])), (q8, .inr (4, [.int 0, .int 0, .int 0, .int 0])), (q0, .inr (4, [.int y9, .int y14, .int 100, .int y19])), (nst, .inl (kst, 9, .inr (.inr (.inr (.inr sf))))), (q1, .inr (4, [.int y28, .int y33, .int 100, .int y38])), (nb, .inr (0, [.ref ntx, .ref nst, .ref nct, .int 2, .int 0, .int 3, .int 0, .int 0, .int 10, .int 0, .int 0, .int 0, .int 0, .int (zz_nz (zz_nz (zz_nz (zz_nz (zz_nz (zz_nz (zz_nz (zz_nz 1))))))))]))] [(kst, .object RX4)] H63 locs64 := Z65
          clear Z65
          refine lv_bipush (v := 12) hx hb dX6_deal_54 (by decide) ?_
          refine lv_irem hx hb dX6_deal_56 (by decide) ?_
          refine lv_topi (fun y52 ey53 => ?_)
          refine lv_istore (lv' := [(5, .int y52), (4, .int y47), (3, .int 2), (6, .int y38), (2, .int n), (0, .ref x), (1, .int n)]) hx hb dX6_deal_57 hl62 (by decide) rfl (fun ls67 hl68 => ?_)
          clear hl62
          refine lv_aload_n hx hb dX6_deal_59 rfl (lv_at hl68 5 rfl) ?_
          refine zz_get X Z66 0 rfl rfl (fun w h => List.mem_cons_of_mem _ (List.mem_append_left _ (List.mem_append_left _ (List.mem_append_right _ h)))) 1 rfl (zz_m 2 rfl) rfl dX6_deal_60 ?_
          refine zz_ci (WC := [(nb, .inr (0, [.ref ntx, .ref nst, .ref nct, .int 2, .int 0, .int 3, .int 0, .int 0, .int 10, .int 0, .int 0, .int 0, .int 0, .int (zz_nz (zz_nz (zz_nz (zz_nz (zz_nz (zz_nz (zz_nz (zz_nz 1))))))))]))]) (TC := []) (WR := [(x, .inr (6, [.ref tx0, .ref nb, .ref tb, .ref ib, .ref ah, .ref tp, .ref rd, .ref sh, .ref sl, .ref wt, .int 0, .int 0, .int 0, .int 0, .int 0])), (q2, .inr (4, [.int 0, .int 0, .int 0, .int 0])), (q3, .inr (4, [.int 0, .int 0, .int 0, .int 0])), (q4, .inr (4, [.int 0, .int 0, .int 0, .int 0])), (q5, .inr (4, [.int 0, .int 0, .int 0, .int 0])), (q6, .inr (4, [.int 0, .int 0, .int 0, .int 0])), (q7, .inr (4, [.int 0, .int 0, .int 0, .int 0])), (q8, .inr (4, [.int 0, .int 0, .int 0, .int 0])), (q0, .inr (4, [.int y9, .int y14, .int 100, .int y19])), (nst, .inl (kst, 9, .inr (.inr (.inr (.inr sf))))), (q1, .inr (4, [.int y28, .int y33, .int 100, .int y38]))]) (TR := [(kst, .object RX4)]) (k := 0) (n := 0) Z66 [11] [0, 1, 2, 3, 4, 5, 6, 7, 8, 9, 10] [] [0] rfl rfl (by decide +kernel) (by decide +kernel) (by decide +kernel) rfl rfl (fun Zc => va_runV (As := []) (rest := []) X (c_draw l D nb ntx nst nct 2 0 3 0 0 10 0 0 0 0 (zz_nz (zz_nz (zz_nz (zz_nz (zz_nz (zz_nz (zz_nz (zz_nz 1)))))))) H63.size) (cwV 0 hts gX6_deal_X0_draw rfl rfl rfl ⟨rfl, zh_X0_draw⟩ ⟨Nat.le_of_ble_eq_true rfl, Nat.le_of_ble_eq_true rfl⟩) (zz_pV (ci := 0) Zc 0 rfl rfl) rfl rfl hl68.1 rfl (lv_room (Nat.le_of_ble_eq_true rfl)) dX6_deal_63 ⟨Nat.le_of_ble_eq_true rfl, Nat.le_of_ble_eq_true rfl⟩) rfl rfl (fun r56 u54 H69 locs70 hw55 Z71 => ?_)
          clear Z66
          subst r56
          have Z72 : zz_S D A s [(x, .inr (6, [.ref tx0, .ref nb, .ref tb, .ref ib, .ref ah, .ref tp, .ref rd, .ref sh, .ref sl, .ref wt, .int 0, .int 0, .int 0, .int 0, .int 0])), (q2, .inr (4, [.int 0, .int 0, .int 0, .int 0])), (q3, .inr (4, [.int 0, .int 0, .int 0, .int 0])), (q4, .inr (4, [.int 0, .int 0, .int 0, .int 0])), (q5, .inr (4, [.int 0, .int 0, .int 0, .int 0])), (q6, .inr (4, [.int 0, .int 0, .int 0, .int 0])), (q7, .inr (4, [.int 0, .int 0, .int 0, .int 0])), (q8, .inr (4, [.int 0, .int 0, .int 0, .int 0])), (q0, .inr (4, [.int y9, .int y14, .int 100, .int y19])), (nst, .inl (kst, 9, .inr (.inr (.inr (.inr sf))))), (q1, .inr (4, [.int y28, .int y33, .int 100, .int y38])), (nb, .inr (0, [.ref ntx, .ref nst, .ref nct, .int 2, .int 0, .int 3, .int 0, .int 0, .int 10, .int 0, .int 0, .int 0, .int 0, .int (zz_nz (zz_nz (zz_nz (zz_nz (zz_nz (zz_nz (zz_nz (zz_nz (zz_nz 1)))))))))]))] [(kst, .object RX4)] H69 locs70 := Z71
          clear Z71
          refine lv_bipush (v := 40) hx hb dX6_deal_66 (by decide) ?_
          refine lv_irem hx hb dX6_deal_68 (by decide) ?_
          refine lv_topi (fun y57 ey58 => ?_)
          refine lv_istore (lv' := [(6, .int y57), (5, .int y52), (4, .int y47), (3, .int 2), (2, .int n), (0, .ref x), (1, .int n)]) hx hb dX6_deal_69 hl68 (by decide) rfl (fun ls73 hl74 => ?_)
          clear hl68
          refine lv_aload_n hx hb dX6_deal_71 rfl (lv_at hl74 5 rfl) ?_
          refine zz_get X Z72 0 rfl rfl (fun w h => List.mem_cons_of_mem _ (List.mem_append_left _ (List.mem_append_left _ (List.mem_append_right _ h)))) 1 rfl (zz_m 2 rfl) rfl dX6_deal_72 ?_
          refine lv_iload hx hb dX6_deal_75 (lv_at hl74 2 rfl) ?_
          refine lv_iload hx hb dX6_deal_77 (lv_at hl74 1 rfl) ?_
          refine lv_iload hx hb dX6_deal_79 (lv_at hl74 0 rfl) ?_
          refine zz_ci (WC := [(nb, .inr (0, [.ref ntx, .ref nst, .ref nct, .int 2, .int 0, .int 3, .int 0, .int 0, .int 10, .int 0, .int 0, .int 0, .int 0, .int (zz_nz (zz_nz (zz_nz (zz_nz (zz_nz (zz_nz (zz_nz (zz_nz (zz_nz 1)))))))))])), (nst, .inl (kst, 9, .inr (.inr (.inr (.inr sf))))), (q2, .inr (4, [.int 0, .int 0, .int 0, .int 0]))]) (TC := [(kst, .object RX4)]) (WR := [(x, .inr (6, [.ref tx0, .ref nb, .ref tb, .ref ib, .ref ah, .ref tp, .ref rd, .ref sh, .ref sl, .ref wt, .int 0, .int 0, .int 0, .int 0, .int 0])), (q3, .inr (4, [.int 0, .int 0, .int 0, .int 0])), (q4, .inr (4, [.int 0, .int 0, .int 0, .int 0])), (q5, .inr (4, [.int 0, .int 0, .int 0, .int 0])), (q6, .inr (4, [.int 0, .int 0, .int 0, .int 0])), (q7, .inr (4, [.int 0, .int 0, .int 0, .int 0])), (q8, .inr (4, [.int 0, .int 0, .int 0, .int 0])), (q0, .inr (4, [.int y9, .int y14, .int 100, .int y19])), (q1, .inr (4, [.int y28, .int y33, .int 100, .int y38]))]) (TR := []) (k := 0) (n := 0) Z72 [11, 9, 1] [0, 2, 3, 4, 5, 6, 7, 8, 10] [0] [] rfl rfl (by decide +kernel) (by decide +kernel) (by decide +kernel) rfl rfl (fun Zc => va_runV (As := [.int y47, .int y52, .int y57]) (rest := []) X (c_open l D nb ntx nst nct 2 0 3 0 0 10 0 0 0 0 (zz_nz (zz_nz (zz_nz (zz_nz (zz_nz (zz_nz (zz_nz (zz_nz (zz_nz 1))))))))) kst sf q2 0 0 0 0 y47 y52 y57 (by decide) (zz_in 2 9 rfl) asf_2 H69.size) (cwV 3 hts gX6_deal_X0_open rfl rfl rfl ⟨rfl, zh_X0_open⟩ ⟨Nat.le_of_ble_eq_true rfl, Nat.le_of_ble_eq_true rfl⟩) (zz_pV (ci := 0) Zc 0 rfl rfl) rfl rfl hl74.1 rfl (lv_room (Nat.le_of_ble_eq_true rfl)) dX6_deal_81 ⟨Nat.le_of_ble_eq_true rfl, Nat.le_of_ble_eq_true rfl⟩) rfl rfl (fun r61 u59 H75 locs76 hw60 Z77 => ?_)
          clear Z72
          have hw60 : r61 = 2 := hw60.trans (by decide)
          subst r61
          have Z78 : zz_S D A s [(x, .inr (6, [.ref tx0, .ref nb, .ref tb, .ref ib, .ref ah, .ref tp, .ref rd, .ref sh, .ref sl, .ref wt, .int 0, .int 0, .int 0, .int 0, .int 0])), (q3, .inr (4, [.int 0, .int 0, .int 0, .int 0])), (q4, .inr (4, [.int 0, .int 0, .int 0, .int 0])), (q5, .inr (4, [.int 0, .int 0, .int 0, .int 0])), (q6, .inr (4, [.int 0, .int 0, .int 0, .int 0])), (q7, .inr (4, [.int 0, .int 0, .int 0, .int 0])), (q8, .inr (4, [.int 0, .int 0, .int 0, .int 0])), (q0, .inr (4, [.int y9, .int y14, .int 100, .int y19])), (q1, .inr (4, [.int y28, .int y33, .int 100, .int y38])), (nb, .inr (0, [.ref ntx, .ref nst, .ref nct, .int 3, .int 0, .int 3, .int 0, .int 0, .int 10, .int 0, .int 0, .int 0, .int 0, .int (zz_nz (zz_nz (zz_nz (zz_nz (zz_nz (zz_nz (zz_nz (zz_nz (zz_nz 1)))))))))])), (nst, .inl (kst, 9, .inr (.inr (.inr (.inr sf))))), (q2, .inr (4, [.int y47, .int y52, .int 100, .int y57]))] [(kst, .object RX4)] H75 locs76 := Z77
          clear Z77
          refine lv_pop hx hb dX6_deal_84 rfl ?_
          refine lv_iinc (v := 3) (lv' := [(3, .int 3), (6, .int y57), (5, .int y52), (4, .int y47), (2, .int n), (0, .ref x), (1, .int n)]) hx hb dX6_deal_85 hl74 (k := 3) rfl (by decide) (by decide) rfl (fun ls79 hl80 => ?_)
          clear hl74
          refine lv_goto (tgt := 30) hx hb dX6_deal_88 (by decide) ?_
          refine lv_iload_n hx hb dX6_deal_30 rfl (lv_at hl80 0 rfl) ?_
          refine lv_iload_n hx hb dX6_deal_31 rfl (lv_at hl80 4 rfl) ?_
          refine lv_icmp_ge (tgt := 91) hx hb dX6_deal_32 (by decide) (fun b62 => ?_) (fun b62 => ?_)
          · refine lv_iload_n hx hb dX6_deal_91 rfl (lv_at hl80 4 rfl) ?_
            exact zz_iret X hr hlk Z78 () (if_pos w4).symm [] [] (by decide +kernel) rfl rfl dX6_deal_92
          · refine lv_aload_n hx hb dX6_deal_35 rfl (lv_at hl80 5 rfl) ?_
            refine zz_get X Z78 0 rfl rfl (fun w h => List.mem_cons_of_mem _ (List.mem_append_left _ (List.mem_append_left _ (List.mem_append_right _ h)))) 1 rfl (zz_m 2 rfl) rfl dX6_deal_36 ?_
            refine zz_ci (WC := [(nb, .inr (0, [.ref ntx, .ref nst, .ref nct, .int 3, .int 0, .int 3, .int 0, .int 0, .int 10, .int 0, .int 0, .int 0, .int 0, .int (zz_nz (zz_nz (zz_nz (zz_nz (zz_nz (zz_nz (zz_nz (zz_nz (zz_nz 1)))))))))]))]) (TC := []) (WR := [(x, .inr (6, [.ref tx0, .ref nb, .ref tb, .ref ib, .ref ah, .ref tp, .ref rd, .ref sh, .ref sl, .ref wt, .int 0, .int 0, .int 0, .int 0, .int 0])), (q3, .inr (4, [.int 0, .int 0, .int 0, .int 0])), (q4, .inr (4, [.int 0, .int 0, .int 0, .int 0])), (q5, .inr (4, [.int 0, .int 0, .int 0, .int 0])), (q6, .inr (4, [.int 0, .int 0, .int 0, .int 0])), (q7, .inr (4, [.int 0, .int 0, .int 0, .int 0])), (q8, .inr (4, [.int 0, .int 0, .int 0, .int 0])), (q0, .inr (4, [.int y9, .int y14, .int 100, .int y19])), (q1, .inr (4, [.int y28, .int y33, .int 100, .int y38])), (nst, .inl (kst, 9, .inr (.inr (.inr (.inr sf))))), (q2, .inr (4, [.int y47, .int y52, .int 100, .int y57]))]) (TR := [(kst, .object RX4)]) (k := 0) (n := 0) Z78 [9] [0, 1, 2, 3, 4, 5, 6, 7, 8, 10, 11] [] [0] rfl rfl (by decide +kernel) (by decide +kernel) (by decide +kernel) rfl rfl (fun Zc => va_runV (As := []) (rest := []) X (c_draw l D nb ntx nst nct 3 0 3 0 0 10 0 0 0 0 (zz_nz (zz_nz (zz_nz (zz_nz (zz_nz (zz_nz (zz_nz (zz_nz (zz_nz 1))))))))) H75.size) (cwV 0 hts gX6_deal_X0_draw rfl rfl rfl ⟨rfl, zh_X0_draw⟩ ⟨Nat.le_of_ble_eq_true rfl, Nat.le_of_ble_eq_true rfl⟩) (zz_pV (ci := 0) Zc 0 rfl rfl) rfl rfl hl80.1 rfl (lv_room (Nat.le_of_ble_eq_true rfl)) dX6_deal_39 ⟨Nat.le_of_ble_eq_true rfl, Nat.le_of_ble_eq_true rfl⟩) rfl rfl (fun r65 u63 H81 locs82 hw64 Z83 => ?_)
            clear Z78
            subst r65
            have Z84 : zz_S D A s [(x, .inr (6, [.ref tx0, .ref nb, .ref tb, .ref ib, .ref ah, .ref tp, .ref rd, .ref sh, .ref sl, .ref wt, .int 0, .int 0, .int 0, .int 0, .int 0])), (q3, .inr (4, [.int 0, .int 0, .int 0, .int 0])), (q4, .inr (4, [.int 0, .int 0, .int 0, .int 0])), (q5, .inr (4, [.int 0, .int 0, .int 0, .int 0])), (q6, .inr (4, [.int 0, .int 0, .int 0, .int 0])), (q7, .inr (4, [.int 0, .int 0, .int 0, .int 0])), (q8, .inr (4, [.int 0, .int 0, .int 0, .int 0])), (q0, .inr (4, [.int y9, .int y14, .int 100, .int y19])), (q1, .inr (4, [.int y28, .int y33, .int 100, .int y38])), (nst, .inl (kst, 9, .inr (.inr (.inr (.inr sf))))), (q2, .inr (4, [.int y47, .int y52, .int 100, .int y57])), (nb, .inr (0, [.ref ntx, .ref nst, .ref nct, .int 3, .int 0, .int 3, .int 0, .int 0, .int 10, .int 0, .int 0, .int 0, .int 0, .int (zz_nz (zz_nz (zz_nz (zz_nz (zz_nz (zz_nz (zz_nz (zz_nz (zz_nz (zz_nz 1))))))))))]))] [(kst, .object RX4)] H81 locs82 := Z83
            clear Z83
            refine lv_bipush (v := 6) hx hb dX6_deal_42 (by decide) ?_
            refine lv_irem hx hb dX6_deal_44 (by decide) ?_
            refine lv_topi (fun y66 ey67 => ?_)
            refine lv_istore (lv' := [(4, .int y66), (3, .int 3), (6, .int y57), (5, .int y52), (2, .int n), (0, .ref x), (1, .int n)]) hx hb dX6_deal_45 hl80 (by decide) rfl (fun ls85 hl86 => ?_)
            clear hl80
            refine lv_aload_n hx hb dX6_deal_47 rfl (lv_at hl86 5 rfl) ?_
            refine zz_get X Z84 0 rfl rfl (fun w h => List.mem_cons_of_mem _ (List.mem_append_left _ (List.mem_append_left _ (List.mem_append_right _ h)))) 1 rfl (zz_m 2 rfl) rfl dX6_deal_48 ?_
            refine zz_ci (WC := [(nb, .inr (0, [.ref ntx, .ref nst, .ref nct, .int 3, .int 0, .int 3, .int 0, .int 0, .int 10, .int 0, .int 0, .int 0, .int 0, .int (zz_nz (zz_nz (zz_nz (zz_nz (zz_nz (zz_nz (zz_nz (zz_nz (zz_nz (zz_nz 1))))))))))]))]) (TC := []) (WR := [(x, .inr (6, [.ref tx0, .ref nb, .ref tb, .ref ib, .ref ah, .ref tp, .ref rd, .ref sh, .ref sl, .ref wt, .int 0, .int 0, .int 0, .int 0, .int 0])), (q3, .inr (4, [.int 0, .int 0, .int 0, .int 0])), (q4, .inr (4, [.int 0, .int 0, .int 0, .int 0])), (q5, .inr (4, [.int 0, .int 0, .int 0, .int 0])), (q6, .inr (4, [.int 0, .int 0, .int 0, .int 0])), (q7, .inr (4, [.int 0, .int 0, .int 0, .int 0])), (q8, .inr (4, [.int 0, .int 0, .int 0, .int 0])), (q0, .inr (4, [.int y9, .int y14, .int 100, .int y19])), (q1, .inr (4, [.int y28, .int y33, .int 100, .int y38])), (nst, .inl (kst, 9, .inr (.inr (.inr (.inr sf))))), (q2, .inr (4, [.int y47, .int y52, .int 100, .int y57]))]) (TR := [(kst, .object RX4)]) (k := 0) (n := 0) Z84 [11] [0, 1, 2, 3, 4, 5, 6, 7, 8, 9, 10] [] [0] rfl rfl (by decide +kernel) (by decide +kernel) (by decide +kernel) rfl rfl (fun Zc => va_runV (As := []) (rest := []) X (c_draw l D nb ntx nst nct 3 0 3 0 0 10 0 0 0 0 (zz_nz (zz_nz (zz_nz (zz_nz (zz_nz (zz_nz (zz_nz (zz_nz (zz_nz (zz_nz 1)))))))))) H81.size) (cwV 0 hts gX6_deal_X0_draw rfl rfl rfl ⟨rfl, zh_X0_draw⟩ ⟨Nat.le_of_ble_eq_true rfl, Nat.le_of_ble_eq_true rfl⟩) (zz_pV (ci := 0) Zc 0 rfl rfl) rfl rfl hl86.1 rfl (lv_room (Nat.le_of_ble_eq_true rfl)) dX6_deal_51 ⟨Nat.le_of_ble_eq_true rfl, Nat.le_of_ble_eq_true rfl⟩) rfl rfl (fun r70 u68 H87 locs88 hw69 Z89 => ?_)
            clear Z84
            subst r70
            have Z90 : zz_S D A s [(x, .inr (6, [.ref tx0, .ref nb, .ref tb, .ref ib, .ref ah, .ref tp, .ref rd, .ref sh, .ref sl, .ref wt, .int 0, .int 0, .int 0, .int 0, .int 0])), (q3, .inr (4, [.int 0, .int 0, .int 0, .int 0])), (q4, .inr (4, [.int 0, .int 0, .int 0, .int 0])), (q5, .inr (4, [.int 0, .int 0, .int 0, .int 0])), (q6, .inr (4, [.int 0, .int 0, .int 0, .int 0])), (q7, .inr (4, [.int 0, .int 0, .int 0, .int 0])), (q8, .inr (4, [.int 0, .int 0, .int 0, .int 0])), (q0, .inr (4, [.int y9, .int y14, .int 100, .int y19])), (q1, .inr (4, [.int y28, .int y33, .int 100, .int y38])), (nst, .inl (kst, 9, .inr (.inr (.inr (.inr sf))))), (q2, .inr (4, [.int y47, .int y52, .int 100, .int y57])), (nb, .inr (0, [.ref ntx, .ref nst, .ref nct, .int 3, .int 0, .int 3, .int 0, .int 0, .int 10, .int 0, .int 0, .int 0, .int 0, .int (zz_nz (zz_nz (zz_nz (zz_nz (zz_nz (zz_nz (zz_nz (zz_nz (zz_nz (zz_nz (zz_nz 1)))))))))))]))] [(kst, .object RX4)] H87 locs88 := Z89
            clear Z89
            refine lv_bipush (v := 12) hx hb dX6_deal_54 (by decide) ?_
            refine lv_irem hx hb dX6_deal_56 (by decide) ?_
            refine lv_topi (fun y71 ey72 => ?_)
            refine lv_istore (lv' := [(5, .int y71), (4, .int y66), (3, .int 3), (6, .int y57), (2, .int n), (0, .ref x), (1, .int n)]) hx hb dX6_deal_57 hl86 (by decide) rfl (fun ls91 hl92 => ?_)
            clear hl86
            refine lv_aload_n hx hb dX6_deal_59 rfl (lv_at hl92 5 rfl) ?_
            refine zz_get X Z90 0 rfl rfl (fun w h => List.mem_cons_of_mem _ (List.mem_append_left _ (List.mem_append_left _ (List.mem_append_right _ h)))) 1 rfl (zz_m 2 rfl) rfl dX6_deal_60 ?_
            refine zz_ci (WC := [(nb, .inr (0, [.ref ntx, .ref nst, .ref nct, .int 3, .int 0, .int 3, .int 0, .int 0, .int 10, .int 0, .int 0, .int 0, .int 0, .int (zz_nz (zz_nz (zz_nz (zz_nz (zz_nz (zz_nz (zz_nz (zz_nz (zz_nz (zz_nz (zz_nz 1)))))))))))]))]) (TC := []) (WR := [(x, .inr (6, [.ref tx0, .ref nb, .ref tb, .ref ib, .ref ah, .ref tp, .ref rd, .ref sh, .ref sl, .ref wt, .int 0, .int 0, .int 0, .int 0, .int 0])), (q3, .inr (4, [.int 0, .int 0, .int 0, .int 0])), (q4, .inr (4, [.int 0, .int 0, .int 0, .int 0])), (q5, .inr (4, [.int 0, .int 0, .int 0, .int 0])), (q6, .inr (4, [.int 0, .int 0, .int 0, .int 0])), (q7, .inr (4, [.int 0, .int 0, .int 0, .int 0])), (q8, .inr (4, [.int 0, .int 0, .int 0, .int 0])), (q0, .inr (4, [.int y9, .int y14, .int 100, .int y19])), (q1, .inr (4, [.int y28, .int y33, .int 100, .int y38])), (nst, .inl (kst, 9, .inr (.inr (.inr (.inr sf))))), (q2, .inr (4, [.int y47, .int y52, .int 100, .int y57]))]) (TR := [(kst, .object RX4)]) (k := 0) (n := 0) Z90 [11] [0, 1, 2, 3, 4, 5, 6, 7, 8, 9, 10] [] [0] rfl rfl (by decide +kernel) (by decide +kernel) (by decide +kernel) rfl rfl (fun Zc => va_runV (As := []) (rest := []) X (c_draw l D nb ntx nst nct 3 0 3 0 0 10 0 0 0 0 (zz_nz (zz_nz (zz_nz (zz_nz (zz_nz (zz_nz (zz_nz (zz_nz (zz_nz (zz_nz (zz_nz 1))))))))))) H87.size) (cwV 0 hts gX6_deal_X0_draw rfl rfl rfl ⟨rfl, zh_X0_draw⟩ ⟨Nat.le_of_ble_eq_true rfl, Nat.le_of_ble_eq_true rfl⟩) (zz_pV (ci := 0) Zc 0 rfl rfl) rfl rfl hl92.1 rfl (lv_room (Nat.le_of_ble_eq_true rfl)) dX6_deal_63 ⟨Nat.le_of_ble_eq_true rfl, Nat.le_of_ble_eq_true rfl⟩) rfl rfl (fun r75 u73 H93 locs94 hw74 Z95 => ?_)
            clear Z90
            subst r75
            have Z96 : zz_S D A s [(x, .inr (6, [.ref tx0, .ref nb, .ref tb, .ref ib, .ref ah, .ref tp, .ref rd, .ref sh, .ref sl, .ref wt, .int 0, .int 0, .int 0, .int 0, .int 0])), (q3, .inr (4, [.int 0, .int 0, .int 0, .int 0])), (q4, .inr (4, [.int 0, .int 0, .int 0, .int 0])), (q5, .inr (4, [.int 0, .int 0, .int 0, .int 0])), (q6, .inr (4, [.int 0, .int 0, .int 0, .int 0])), (q7, .inr (4, [.int 0, .int 0, .int 0, .int 0])), (q8, .inr (4, [.int 0, .int 0, .int 0, .int 0])), (q0, .inr (4, [.int y9, .int y14, .int 100, .int y19])), (q1, .inr (4, [.int y28, .int y33, .int 100, .int y38])), (nst, .inl (kst, 9, .inr (.inr (.inr (.inr sf))))), (q2, .inr (4, [.int y47, .int y52, .int 100, .int y57])), (nb, .inr (0, [.ref ntx, .ref nst, .ref nct, .int 3, .int 0, .int 3, .int 0, .int 0, .int 10, .int 0, .int 0, .int 0, .int 0, .int (zz_nz (zz_nz (zz_nz (zz_nz (zz_nz (zz_nz (zz_nz (zz_nz (zz_nz (zz_nz (zz_nz (zz_nz 1))))))))))))]))] [(kst, .object RX4)] H93 locs94 := Z95
            clear Z95
            refine lv_bipush (v := 40) hx hb dX6_deal_66 (by decide) ?_
            refine lv_irem hx hb dX6_deal_68 (by decide) ?_
            refine lv_topi (fun y76 ey77 => ?_)
            refine lv_istore (lv' := [(6, .int y76), (5, .int y71), (4, .int y66), (3, .int 3), (2, .int n), (0, .ref x), (1, .int n)]) hx hb dX6_deal_69 hl92 (by decide) rfl (fun ls97 hl98 => ?_)
            clear hl92
            refine lv_aload_n hx hb dX6_deal_71 rfl (lv_at hl98 5 rfl) ?_
            refine zz_get X Z96 0 rfl rfl (fun w h => List.mem_cons_of_mem _ (List.mem_append_left _ (List.mem_append_left _ (List.mem_append_right _ h)))) 1 rfl (zz_m 2 rfl) rfl dX6_deal_72 ?_
            refine lv_iload hx hb dX6_deal_75 (lv_at hl98 2 rfl) ?_
            refine lv_iload hx hb dX6_deal_77 (lv_at hl98 1 rfl) ?_
            refine lv_iload hx hb dX6_deal_79 (lv_at hl98 0 rfl) ?_
            refine zz_ci (WC := [(nb, .inr (0, [.ref ntx, .ref nst, .ref nct, .int 3, .int 0, .int 3, .int 0, .int 0, .int 10, .int 0, .int 0, .int 0, .int 0, .int (zz_nz (zz_nz (zz_nz (zz_nz (zz_nz (zz_nz (zz_nz (zz_nz (zz_nz (zz_nz (zz_nz (zz_nz 1))))))))))))])), (nst, .inl (kst, 9, .inr (.inr (.inr (.inr sf))))), (q3, .inr (4, [.int 0, .int 0, .int 0, .int 0]))]) (TC := [(kst, .object RX4)]) (WR := [(x, .inr (6, [.ref tx0, .ref nb, .ref tb, .ref ib, .ref ah, .ref tp, .ref rd, .ref sh, .ref sl, .ref wt, .int 0, .int 0, .int 0, .int 0, .int 0])), (q4, .inr (4, [.int 0, .int 0, .int 0, .int 0])), (q5, .inr (4, [.int 0, .int 0, .int 0, .int 0])), (q6, .inr (4, [.int 0, .int 0, .int 0, .int 0])), (q7, .inr (4, [.int 0, .int 0, .int 0, .int 0])), (q8, .inr (4, [.int 0, .int 0, .int 0, .int 0])), (q0, .inr (4, [.int y9, .int y14, .int 100, .int y19])), (q1, .inr (4, [.int y28, .int y33, .int 100, .int y38])), (q2, .inr (4, [.int y47, .int y52, .int 100, .int y57]))]) (TR := []) (k := 0) (n := 0) Z96 [11, 9, 1] [0, 2, 3, 4, 5, 6, 7, 8, 10] [0] [] rfl rfl (by decide +kernel) (by decide +kernel) (by decide +kernel) rfl rfl (fun Zc => va_runV (As := [.int y66, .int y71, .int y76]) (rest := []) X (c_open l D nb ntx nst nct 3 0 3 0 0 10 0 0 0 0 (zz_nz (zz_nz (zz_nz (zz_nz (zz_nz (zz_nz (zz_nz (zz_nz (zz_nz (zz_nz (zz_nz (zz_nz 1)))))))))))) kst sf q3 0 0 0 0 y66 y71 y76 (by decide) (zz_in 3 9 rfl) asf_3 H93.size) (cwV 3 hts gX6_deal_X0_open rfl rfl rfl ⟨rfl, zh_X0_open⟩ ⟨Nat.le_of_ble_eq_true rfl, Nat.le_of_ble_eq_true rfl⟩) (zz_pV (ci := 0) Zc 0 rfl rfl) rfl rfl hl98.1 rfl (lv_room (Nat.le_of_ble_eq_true rfl)) dX6_deal_81 ⟨Nat.le_of_ble_eq_true rfl, Nat.le_of_ble_eq_true rfl⟩) rfl rfl (fun r80 u78 H99 locs100 hw79 Z101 => ?_)
            clear Z96
            have hw79 : r80 = 3 := hw79.trans (by decide)
            subst r80
            have Z102 : zz_S D A s [(x, .inr (6, [.ref tx0, .ref nb, .ref tb, .ref ib, .ref ah, .ref tp, .ref rd, .ref sh, .ref sl, .ref wt, .int 0, .int 0, .int 0, .int 0, .int 0])), (q4, .inr (4, [.int 0, .int 0, .int 0, .int 0])), (q5, .inr (4, [.int 0, .int 0, .int 0, .int 0])), (q6, .inr (4, [.int 0, .int 0, .int 0, .int 0])), (q7, .inr (4, [.int 0, .int 0, .int 0, .int 0])), (q8, .inr (4, [.int 0, .int 0, .int 0, .int 0])), (q0, .inr (4, [.int y9, .int y14, .int 100, .int y19])), (q1, .inr (4, [.int y28, .int y33, .int 100, .int y38])), (q2, .inr (4, [.int y47, .int y52, .int 100, .int y57])), (nb, .inr (0, [.ref ntx, .ref nst, .ref nct, .int 4, .int 0, .int 3, .int 0, .int 0, .int 10, .int 0, .int 0, .int 0, .int 0, .int (zz_nz (zz_nz (zz_nz (zz_nz (zz_nz (zz_nz (zz_nz (zz_nz (zz_nz (zz_nz (zz_nz (zz_nz 1))))))))))))])), (nst, .inl (kst, 9, .inr (.inr (.inr (.inr sf))))), (q3, .inr (4, [.int y66, .int y71, .int 100, .int y76]))] [(kst, .object RX4)] H99 locs100 := Z101
            clear Z101
            refine lv_pop hx hb dX6_deal_84 rfl ?_
            refine lv_iinc (v := 4) (lv' := [(3, .int 4), (6, .int y76), (5, .int y71), (4, .int y66), (2, .int n), (0, .ref x), (1, .int n)]) hx hb dX6_deal_85 hl98 (k := 3) rfl (by decide) (by decide) rfl (fun ls103 hl104 => ?_)
            clear hl98
            refine lv_goto (tgt := 30) hx hb dX6_deal_88 (by decide) ?_
            refine lv_iload_n hx hb dX6_deal_30 rfl (lv_at hl104 0 rfl) ?_
            refine lv_iload_n hx hb dX6_deal_31 rfl (lv_at hl104 4 rfl) ?_
            refine lv_icmp_ge (tgt := 91) hx hb dX6_deal_32 (by decide) (fun b81 => ?_) (fun b81 => ?_)
            · refine lv_iload_n hx hb dX6_deal_91 rfl (lv_at hl104 4 rfl) ?_
              exact zz_iret X hr hlk Z102 () (if_pos w4).symm [] [] (by decide +kernel) rfl rfl dX6_deal_92
            · refine lv_aload_n hx hb dX6_deal_35 rfl (lv_at hl104 5 rfl) ?_
              refine zz_get X Z102 0 rfl rfl (fun w h => List.mem_cons_of_mem _ (List.mem_append_left _ (List.mem_append_left _ (List.mem_append_right _ h)))) 1 rfl (zz_m 2 rfl) rfl dX6_deal_36 ?_
              refine zz_ci (WC := [(nb, .inr (0, [.ref ntx, .ref nst, .ref nct, .int 4, .int 0, .int 3, .int 0, .int 0, .int 10, .int 0, .int 0, .int 0, .int 0, .int (zz_nz (zz_nz (zz_nz (zz_nz (zz_nz (zz_nz (zz_nz (zz_nz (zz_nz (zz_nz (zz_nz (zz_nz 1))))))))))))]))]) (TC := []) (WR := [(x, .inr (6, [.ref tx0, .ref nb, .ref tb, .ref ib, .ref ah, .ref tp, .ref rd, .ref sh, .ref sl, .ref wt, .int 0, .int 0, .int 0, .int 0, .int 0])), (q4, .inr (4, [.int 0, .int 0, .int 0, .int 0])), (q5, .inr (4, [.int 0, .int 0, .int 0, .int 0])), (q6, .inr (4, [.int 0, .int 0, .int 0, .int 0])), (q7, .inr (4, [.int 0, .int 0, .int 0, .int 0])), (q8, .inr (4, [.int 0, .int 0, .int 0, .int 0])), (q0, .inr (4, [.int y9, .int y14, .int 100, .int y19])), (q1, .inr (4, [.int y28, .int y33, .int 100, .int y38])), (q2, .inr (4, [.int y47, .int y52, .int 100, .int y57])), (nst, .inl (kst, 9, .inr (.inr (.inr (.inr sf))))), (q3, .inr (4, [.int y66, .int y71, .int 100, .int y76]))]) (TR := [(kst, .object RX4)]) (k := 0) (n := 0) Z102 [9] [0, 1, 2, 3, 4, 5, 6, 7, 8, 10, 11] [] [0] rfl rfl (by decide +kernel) (by decide +kernel) (by decide +kernel) rfl rfl (fun Zc => va_runV (As := []) (rest := []) X (c_draw l D nb ntx nst nct 4 0 3 0 0 10 0 0 0 0 (zz_nz (zz_nz (zz_nz (zz_nz (zz_nz (zz_nz (zz_nz (zz_nz (zz_nz (zz_nz (zz_nz (zz_nz 1)))))))))))) H99.size) (cwV 0 hts gX6_deal_X0_draw rfl rfl rfl ⟨rfl, zh_X0_draw⟩ ⟨Nat.le_of_ble_eq_true rfl, Nat.le_of_ble_eq_true rfl⟩) (zz_pV (ci := 0) Zc 0 rfl rfl) rfl rfl hl104.1 rfl (lv_room (Nat.le_of_ble_eq_true rfl)) dX6_deal_39 ⟨Nat.le_of_ble_eq_true rfl, Nat.le_of_ble_eq_true rfl⟩) rfl rfl (fun r84 u82 H105 locs106 hw83 Z107 => ?_)
              clear Z102
              subst r84
              have Z108 : zz_S D A s [(x, .inr (6, [.ref tx0, .ref nb, .ref tb, .ref ib, .ref ah, .ref tp, .ref rd, .ref sh, .ref sl, .ref wt, .int 0, .int 0, .int 0, .int 0, .int 0])), (q4, .inr (4, [.int 0, .int 0, .int 0, .int 0])), (q5, .inr (4, [.int 0, .int 0, .int 0, .int 0])), (q6, .inr (4, [.int 0, .int 0, .int 0, .int 0])), (q7, .inr (4, [.int 0, .int 0, .int 0, .int 0])), (q8, .inr (4, [.int 0, .int 0, .int 0, .int 0])), (q0, .inr (4, [.int y9, .int y14, .int 100, .int y19])), (q1, .inr (4, [.int y28, .int y33, .int 100, .int y38])), (q2, .inr (4, [.int y47, .int y52, .int 100, .int y57])), (nst, .inl (kst, 9, .inr (.inr (.inr (.inr sf))))), (q3, .inr (4, [.int y66, .int y71, .int 100, .int y76])), (nb, .inr (0, [.ref ntx, .ref nst, .ref nct, .int 4, .int 0, .int 3, .int 0, .int 0, .int 10, .int 0, .int 0, .int 0, .int 0, .int (zz_nz (zz_nz (zz_nz (zz_nz (zz_nz (zz_nz (zz_nz (zz_nz (zz_nz (zz_nz (zz_nz (zz_nz (zz_nz 1)))))))))))))]))] [(kst, .object RX4)] H105 locs106 := Z107
              clear Z107
              refine lv_bipush (v := 6) hx hb dX6_deal_42 (by decide) ?_
              refine lv_irem hx hb dX6_deal_44 (by decide) ?_
              refine lv_topi (fun y85 ey86 => ?_)
              refine lv_istore (lv' := [(4, .int y85), (3, .int 4), (6, .int y76), (5, .int y71), (2, .int n), (0, .ref x), (1, .int n)]) hx hb dX6_deal_45 hl104 (by decide) rfl (fun ls109 hl110 => ?_)
              clear hl104
              refine lv_aload_n hx hb dX6_deal_47 rfl (lv_at hl110 5 rfl) ?_
              refine zz_get X Z108 0 rfl rfl (fun w h => List.mem_cons_of_mem _ (List.mem_append_left _ (List.mem_append_left _ (List.mem_append_right _ h)))) 1 rfl (zz_m 2 rfl) rfl dX6_deal_48 ?_
              refine zz_ci (WC := [(nb, .inr (0, [.ref ntx, .ref nst, .ref nct, .int 4, .int 0, .int 3, .int 0, .int 0, .int 10, .int 0, .int 0, .int 0, .int 0, .int (zz_nz (zz_nz (zz_nz (zz_nz (zz_nz (zz_nz (zz_nz (zz_nz (zz_nz (zz_nz (zz_nz (zz_nz (zz_nz 1)))))))))))))]))]) (TC := []) (WR := [(x, .inr (6, [.ref tx0, .ref nb, .ref tb, .ref ib, .ref ah, .ref tp, .ref rd, .ref sh, .ref sl, .ref wt, .int 0, .int 0, .int 0, .int 0, .int 0])), (q4, .inr (4, [.int 0, .int 0, .int 0, .int 0])), (q5, .inr (4, [.int 0, .int 0, .int 0, .int 0])), (q6, .inr (4, [.int 0, .int 0, .int 0, .int 0])), (q7, .inr (4, [.int 0, .int 0, .int 0, .int 0])), (q8, .inr (4, [.int 0, .int 0, .int 0, .int 0])), (q0, .inr (4, [.int y9, .int y14, .int 100, .int y19])), (q1, .inr (4, [.int y28, .int y33, .int 100, .int y38])), (q2, .inr (4, [.int y47, .int y52, .int 100, .int y57])), (nst, .inl (kst, 9, .inr (.inr (.inr (.inr sf))))), (q3, .inr (4, [.int y66, .int y71, .int 100, .int y76]))]) (TR := [(kst, .object RX4)]) (k := 0) (n := 0) Z108 [11] [0, 1, 2, 3, 4, 5, 6, 7, 8, 9, 10] [] [0] rfl rfl (by decide +kernel) (by decide +kernel) (by decide +kernel) rfl rfl (fun Zc => va_runV (As := []) (rest := []) X (c_draw l D nb ntx nst nct 4 0 3 0 0 10 0 0 0 0 (zz_nz (zz_nz (zz_nz (zz_nz (zz_nz (zz_nz (zz_nz (zz_nz (zz_nz (zz_nz (zz_nz (zz_nz (zz_nz 1))))))))))))) H105.size) (cwV 0 hts gX6_deal_X0_draw rfl rfl rfl ⟨rfl, zh_X0_draw⟩ ⟨Nat.le_of_ble_eq_true rfl, Nat.le_of_ble_eq_true rfl⟩) (zz_pV (ci := 0) Zc 0 rfl rfl) rfl rfl hl110.1 rfl (lv_room (Nat.le_of_ble_eq_true rfl)) dX6_deal_51 ⟨Nat.le_of_ble_eq_true rfl, Nat.le_of_ble_eq_true rfl⟩) rfl rfl (fun r89 u87 H111 locs112 hw88 Z113 => ?_)
              clear Z108
              subst r89
              have Z114 : zz_S D A s [(x, .inr (6, [.ref tx0, .ref nb, .ref tb, .ref ib, .ref ah, .ref tp, .ref rd, .ref sh, .ref sl, .ref wt, .int 0, .int 0, .int 0, .int 0, .int 0])), (q4, .inr (4, [.int 0, .int 0, .int 0, .int 0])), (q5, .inr (4, [.int 0, .int 0, .int 0, .int 0])), (q6, .inr (4, [.int 0, .int 0, .int 0, .int 0])), (q7, .inr (4, [.int 0, .int 0, .int 0, .int 0])), (q8, .inr (4, [.int 0, .int 0, .int 0, .int 0])), (q0, .inr (4, [.int y9, .int y14, .int 100, .int y19])), (q1, .inr (4, [.int y28, .int y33, .int 100, .int y38])), (q2, .inr (4, [.int y47, .int y52, .int 100, .int y57])), (nst, .inl (kst, 9, .inr (.inr (.inr (.inr sf))))), (q3, .inr (4, [.int y66, .int y71, .int 100, .int y76])), (nb, .inr (0, [.ref ntx, .ref nst, .ref nct, .int 4, .int 0, .int 3, .int 0, .int 0, .int 10, .int 0, .int 0, .int 0, .int 0, .int (zz_nz (zz_nz (zz_nz (zz_nz (zz_nz (zz_nz (zz_nz (zz_nz (zz_nz (zz_nz (zz_nz (zz_nz (zz_nz (zz_nz 1))))))))))))))]))] [(kst, .object RX4)] H111 locs112 := Z113
              clear Z113
              refine lv_bipush (v := 12) hx hb dX6_deal_54 (by decide) ?_
              refine lv_irem hx hb dX6_deal_56 (by decide) ?_
              refine lv_topi (fun y90 ey91 => ?_)
              refine lv_istore (lv' := [(5, .int y90), (4, .int y85), (3, .int 4), (6, .int y76), (2, .int n), (0, .ref x), (1, .int n)]) hx hb dX6_deal_57 hl110 (by decide) rfl (fun ls115 hl116 => ?_)
              clear hl110
              refine lv_aload_n hx hb dX6_deal_59 rfl (lv_at hl116 5 rfl) ?_
              refine zz_get X Z114 0 rfl rfl (fun w h => List.mem_cons_of_mem _ (List.mem_append_left _ (List.mem_append_left _ (List.mem_append_right _ h)))) 1 rfl (zz_m 2 rfl) rfl dX6_deal_60 ?_
              refine zz_ci (WC := [(nb, .inr (0, [.ref ntx, .ref nst, .ref nct, .int 4, .int 0, .int 3, .int 0, .int 0, .int 10, .int 0, .int 0, .int 0, .int 0, .int (zz_nz (zz_nz (zz_nz (zz_nz (zz_nz (zz_nz (zz_nz (zz_nz (zz_nz (zz_nz (zz_nz (zz_nz (zz_nz (zz_nz 1))))))))))))))]))]) (TC := []) (WR := [(x, .inr (6, [.ref tx0, .ref nb, .ref tb, .ref ib, .ref ah, .ref tp, .ref rd, .ref sh, .ref sl, .ref wt, .int 0, .int 0, .int 0, .int 0, .int 0])), (q4, .inr (4, [.int 0, .int 0, .int 0, .int 0])), (q5, .inr (4, [.int 0, .int 0, .int 0, .int 0])), (q6, .inr (4, [.int 0, .int 0, .int 0, .int 0])), (q7, .inr (4, [.int 0, .int 0, .int 0, .int 0])), (q8, .inr (4, [.int 0, .int 0, .int 0, .int 0])), (q0, .inr (4, [.int y9, .int y14, .int 100, .int y19])), (q1, .inr (4, [.int y28, .int y33, .int 100, .int y38])), (q2, .inr (4, [.int y47, .int y52, .int 100, .int y57])), (nst, .inl (kst, 9, .inr (.inr (.inr (.inr sf))))), (q3, .inr (4, [.int y66, .int y71, .int 100, .int y76]))]) (TR := [(kst, .object RX4)]) (k := 0) (n := 0) Z114 [11] [0, 1, 2, 3, 4, 5, 6, 7, 8, 9, 10] [] [0] rfl rfl (by decide +kernel) (by decide +kernel) (by decide +kernel) rfl rfl (fun Zc => va_runV (As := []) (rest := []) X (c_draw l D nb ntx nst nct 4 0 3 0 0 10 0 0 0 0 (zz_nz (zz_nz (zz_nz (zz_nz (zz_nz (zz_nz (zz_nz (zz_nz (zz_nz (zz_nz (zz_nz (zz_nz (zz_nz (zz_nz 1)))))))))))))) H111.size) (cwV 0 hts gX6_deal_X0_draw rfl rfl rfl ⟨rfl, zh_X0_draw⟩ ⟨Nat.le_of_ble_eq_true rfl, Nat.le_of_ble_eq_true rfl⟩) (zz_pV (ci := 0) Zc 0 rfl rfl) rfl rfl hl116.1 rfl (lv_room (Nat.le_of_ble_eq_true rfl)) dX6_deal_63 ⟨Nat.le_of_ble_eq_true rfl, Nat.le_of_ble_eq_true rfl⟩) rfl rfl (fun r94 u92 H117 locs118 hw93 Z119 => ?_)
              clear Z114
              subst r94
              have Z120 : zz_S D A s [(x, .inr (6, [.ref tx0, .ref nb, .ref tb, .ref ib, .ref ah, .ref tp, .ref rd, .ref sh, .ref sl, .ref wt, .int 0, .int 0, .int 0, .int 0, .int 0])), (q4, .inr (4, [.int 0, .int 0, .int 0, .int 0])), (q5, .inr (4, [.int 0, .int 0, .int 0, .int 0])), (q6, .inr (4, [.int 0, .int 0, .int 0, .int 0])), (q7, .inr (4, [.int 0, .int 0, .int 0, .int 0])), (q8, .inr (4, [.int 0, .int 0, .int 0, .int 0])), (q0, .inr (4, [.int y9, .int y14, .int 100, .int y19])), (q1, .inr (4, [.int y28, .int y33, .int 100, .int y38])), (q2, .inr (4, [.int y47, .int y52, .int 100, .int y57])), (nst, .inl (kst, 9, .inr (.inr (.inr (.inr sf))))), (q3, .inr (4, [.int y66, .int y71, .int 100, .int y76])), (nb, .inr (0, [.ref ntx, .ref nst, .ref nct, .int 4, .int 0, .int 3, .int 0, .int 0, .int 10, .int 0, .int 0, .int 0, .int 0, .int (zz_nz (zz_nz (zz_nz (zz_nz (zz_nz (zz_nz (zz_nz (zz_nz (zz_nz (zz_nz (zz_nz (zz_nz (zz_nz (zz_nz (zz_nz 1)))))))))))))))]))] [(kst, .object RX4)] H117 locs118 := Z119
              clear Z119
              refine lv_bipush (v := 40) hx hb dX6_deal_66 (by decide) ?_
              refine lv_irem hx hb dX6_deal_68 (by decide) ?_
              refine lv_topi (fun y95 ey96 => ?_)
              refine lv_istore (lv' := [(6, .int y95), (5, .int y90), (4, .int y85), (3, .int 4), (2, .int n), (0, .ref x), (1, .int n)]) hx hb dX6_deal_69 hl116 (by decide) rfl (fun ls121 hl122 => ?_)
              clear hl116
              refine lv_aload_n hx hb dX6_deal_71 rfl (lv_at hl122 5 rfl) ?_
              refine zz_get X Z120 0 rfl rfl (fun w h => List.mem_cons_of_mem _ (List.mem_append_left _ (List.mem_append_left _ (List.mem_append_right _ h)))) 1 rfl (zz_m 2 rfl) rfl dX6_deal_72 ?_
              refine lv_iload hx hb dX6_deal_75 (lv_at hl122 2 rfl) ?_
              refine lv_iload hx hb dX6_deal_77 (lv_at hl122 1 rfl) ?_
              refine lv_iload hx hb dX6_deal_79 (lv_at hl122 0 rfl) ?_
              refine zz_ci (WC := [(nb, .inr (0, [.ref ntx, .ref nst, .ref nct, .int 4, .int 0, .int 3, .int 0, .int 0, .int 10, .int 0, .int 0, .int 0, .int 0, .int (zz_nz (zz_nz (zz_nz (zz_nz (zz_nz (zz_nz (zz_nz (zz_nz (zz_nz (zz_nz (zz_nz (zz_nz (zz_nz (zz_nz (zz_nz 1)))))))))))))))])), (nst, .inl (kst, 9, .inr (.inr (.inr (.inr sf))))), (q4, .inr (4, [.int 0, .int 0, .int 0, .int 0]))]) (TC := [(kst, .object RX4)]) (WR := [(x, .inr (6, [.ref tx0, .ref nb, .ref tb, .ref ib, .ref ah, .ref tp, .ref rd, .ref sh, .ref sl, .ref wt, .int 0, .int 0, .int 0, .int 0, .int 0])), (q5, .inr (4, [.int 0, .int 0, .int 0, .int 0])), (q6, .inr (4, [.int 0, .int 0, .int 0, .int 0])), (q7, .inr (4, [.int 0, .int 0, .int 0, .int 0])), (q8, .inr (4, [.int 0, .int 0, .int 0, .int 0])), (q0, .inr (4, [.int y9, .int y14, .int 100, .int y19])), (q1, .inr (4, [.int y28, .int y33, .int 100, .int y38])), (q2, .inr (4, [.int y47, .int y52, .int 100, .int y57])), (q3, .inr (4, [.int y66, .int y71, .int 100, .int y76]))]) (TR := []) (k := 0) (n := 0) Z120 [11, 9, 1] [0, 2, 3, 4, 5, 6, 7, 8, 10] [0] [] rfl rfl (by decide +kernel) (by decide +kernel) (by decide +kernel) rfl rfl (fun Zc => va_runV (As := [.int y85, .int y90, .int y95]) (rest := []) X (c_open l D nb ntx nst nct 4 0 3 0 0 10 0 0 0 0 (zz_nz (zz_nz (zz_nz (zz_nz (zz_nz (zz_nz (zz_nz (zz_nz (zz_nz (zz_nz (zz_nz (zz_nz (zz_nz (zz_nz (zz_nz 1))))))))))))))) kst sf q4 0 0 0 0 y85 y90 y95 (by decide) (zz_in 4 9 rfl) asf_4 H117.size) (cwV 3 hts gX6_deal_X0_open rfl rfl rfl ⟨rfl, zh_X0_open⟩ ⟨Nat.le_of_ble_eq_true rfl, Nat.le_of_ble_eq_true rfl⟩) (zz_pV (ci := 0) Zc 0 rfl rfl) rfl rfl hl122.1 rfl (lv_room (Nat.le_of_ble_eq_true rfl)) dX6_deal_81 ⟨Nat.le_of_ble_eq_true rfl, Nat.le_of_ble_eq_true rfl⟩) rfl rfl (fun r99 u97 H123 locs124 hw98 Z125 => ?_)
              clear Z120
              have hw98 : r99 = 4 := hw98.trans (by decide)
              subst r99
              have Z126 : zz_S D A s [(x, .inr (6, [.ref tx0, .ref nb, .ref tb, .ref ib, .ref ah, .ref tp, .ref rd, .ref sh, .ref sl, .ref wt, .int 0, .int 0, .int 0, .int 0, .int 0])), (q5, .inr (4, [.int 0, .int 0, .int 0, .int 0])), (q6, .inr (4, [.int 0, .int 0, .int 0, .int 0])), (q7, .inr (4, [.int 0, .int 0, .int 0, .int 0])), (q8, .inr (4, [.int 0, .int 0, .int 0, .int 0])), (q0, .inr (4, [.int y9, .int y14, .int 100, .int y19])), (q1, .inr (4, [.int y28, .int y33, .int 100, .int y38])), (q2, .inr (4, [.int y47, .int y52, .int 100, .int y57])), (q3, .inr (4, [.int y66, .int y71, .int 100, .int y76])), (nb, .inr (0, [.ref ntx, .ref nst, .ref nct, .int 5, .int 0, .int 3, .int 0, .int 0, .int 10, .int 0, .int 0, .int 0, .int 0, .int (zz_nz (zz_nz (zz_nz (zz_nz (zz_nz (zz_nz (zz_nz (zz_nz (zz_nz (zz_nz (zz_nz (zz_nz (zz_nz (zz_nz (zz_nz 1)))))))))))))))])), (nst, .inl (kst, 9, .inr (.inr (.inr (.inr sf))))), (q4, .inr (4, [.int y85, .int y90, .int 100, .int y95]))] [(kst, .object RX4)] H123 locs124 := Z125
              clear Z125
              refine lv_pop hx hb dX6_deal_84 rfl ?_
              refine lv_iinc (v := 5) (lv' := [(3, .int 5), (6, .int y95), (5, .int y90), (4, .int y85), (2, .int n), (0, .ref x), (1, .int n)]) hx hb dX6_deal_85 hl122 (k := 3) rfl (by decide) (by decide) rfl (fun ls127 hl128 => ?_)
              clear hl122
              refine lv_goto (tgt := 30) hx hb dX6_deal_88 (by decide) ?_
              refine lv_iload_n hx hb dX6_deal_30 rfl (lv_at hl128 0 rfl) ?_
              refine lv_iload_n hx hb dX6_deal_31 rfl (lv_at hl128 4 rfl) ?_
              refine lv_icmp_ge (tgt := 91) hx hb dX6_deal_32 (by decide) (fun b100 => ?_) (fun b100 => ?_)
              · refine lv_iload_n hx hb dX6_deal_91 rfl (lv_at hl128 4 rfl) ?_
                exact zz_iret X hr hlk Z126 () (if_pos w4).symm [] [] (by decide +kernel) rfl rfl dX6_deal_92
              · refine lv_aload_n hx hb dX6_deal_35 rfl (lv_at hl128 5 rfl) ?_
                refine zz_get X Z126 0 rfl rfl (fun w h => List.mem_cons_of_mem _ (List.mem_append_left _ (List.mem_append_left _ (List.mem_append_right _ h)))) 1 rfl (zz_m 2 rfl) rfl dX6_deal_36 ?_
                refine zz_ci (WC := [(nb, .inr (0, [.ref ntx, .ref nst, .ref nct, .int 5, .int 0, .int 3, .int 0, .int 0, .int 10, .int 0, .int 0, .int 0, .int 0, .int (zz_nz (zz_nz (zz_nz (zz_nz (zz_nz (zz_nz (zz_nz (zz_nz (zz_nz (zz_nz (zz_nz (zz_nz (zz_nz (zz_nz (zz_nz 1)))))))))))))))]))]) (TC := []) (WR := [(x, .inr (6, [.ref tx0, .ref nb, .ref tb, .ref ib, .ref ah, .ref tp, .ref rd, .ref sh, .ref sl, .ref wt, .int 0, .int 0, .int 0, .int 0, .int 0])), (q5, .inr (4, [.int 0, .int 0, .int 0, .int 0])), (q6, .inr (4, [.int 0, .int 0, .int 0, .int 0])), (q7, .inr (4, [.int 0, .int 0, .int 0, .int 0])), (q8, .inr (4, [.int 0, .int 0, .int 0, .int 0])), (q0, .inr (4, [.int y9, .int y14, .int 100, .int y19])), (q1, .inr (4, [.int y28, .int y33, .int 100, .int y38])), (q2, .inr (4, [.int y47, .int y52, .int 100, .int y57])), (q3, .inr (4, [.int y66, .int y71, .int 100, .int y76])), (nst, .inl (kst, 9, .inr (.inr (.inr (.inr sf))))), (q4, .inr (4, [.int y85, .int y90, .int 100, .int y95]))]) (TR := [(kst, .object RX4)]) (k := 0) (n := 0) Z126 [9] [0, 1, 2, 3, 4, 5, 6, 7, 8, 10, 11] [] [0] rfl rfl (by decide +kernel) (by decide +kernel) (by decide +kernel) rfl rfl (fun Zc => va_runV (As := []) (rest := []) X (c_draw l D nb ntx nst nct 5 0 3 0 0 10 0 0 0 0 (zz_nz (zz_nz (zz_nz (zz_nz (zz_nz (zz_nz (zz_nz (zz_nz (zz_nz (zz_nz (zz_nz (zz_nz (zz_nz (zz_nz (zz_nz 1))))))))))))))) H123.size) (cwV 0 hts gX6_deal_X0_draw rfl rfl rfl ⟨rfl, zh_X0_draw⟩ ⟨Nat.le_of_ble_eq_true rfl, Nat.le_of_ble_eq_true rfl⟩) (zz_pV (ci := 0) Zc 0 rfl rfl) rfl rfl hl128.1 rfl (lv_room (Nat.le_of_ble_eq_true rfl)) dX6_deal_39 ⟨Nat.le_of_ble_eq_true rfl, Nat.le_of_ble_eq_true rfl⟩) rfl rfl (fun r103 u101 H129 locs130 hw102 Z131 => ?_)
                clear Z126
                subst r103
                have Z132 : zz_S D A s [(x, .inr (6, [.ref tx0, .ref nb, .ref tb, .ref ib, .ref ah, .ref tp, .ref rd, .ref sh, .ref sl, .ref wt, .int 0, .int 0, .int 0, .int 0, .int 0])), (q5, .inr (4, [.int 0, .int 0, .int 0, .int 0])), (q6, .inr (4, [.int 0, .int 0, .int 0, .int 0])), (q7, .inr (4, [.int 0, .int 0, .int 0, .int 0])), (q8, .inr (4, [.int 0, .int 0, .int 0, .int 0])), (q0, .inr (4, [.int y9, .int y14, .int 100, .int y19])), (q1, .inr (4, [.int y28, .int y33, .int 100, .int y38])), (q2, .inr (4, [.int y47, .int y52, .int 100, .int y57])), (q3, .inr (4, [.int y66, .int y71, .int 100, .int y76])), (nst, .inl (kst, 9, .inr (.inr (.inr (.inr sf))))), (q4, .inr (4, [.int y85, .int y90, .int 100, .int y95])), (nb, .inr (0, [.ref ntx, .ref nst, .ref nct, .int 5, .int 0, .int 3, .int 0, .int 0, .int 10, .int 0, .int 0, .int 0, .int 0, .int (zz_nz (zz_nz (zz_nz (zz_nz (zz_nz (zz_nz (zz_nz (zz_nz (zz_nz (zz_nz (zz_nz (zz_nz (zz_nz (zz_nz (zz_nz (zz_nz 1))))))))))))))))]))] [(kst, .object RX4)] H129 locs130 := Z131
                clear Z131
                refine lv_bipush (v := 6) hx hb dX6_deal_42 (by decide) ?_
                refine lv_irem hx hb dX6_deal_44 (by decide) ?_
                refine lv_topi (fun y104 ey105 => ?_)
                refine lv_istore (lv' := [(4, .int y104), (3, .int 5), (6, .int y95), (5, .int y90), (2, .int n), (0, .ref x), (1, .int n)]) hx hb dX6_deal_45 hl128 (by decide) rfl (fun ls133 hl134 => ?_)
                clear hl128
                refine lv_aload_n hx hb dX6_deal_47 rfl (lv_at hl134 5 rfl) ?_
                refine zz_get X Z132 0 rfl rfl (fun w h => List.mem_cons_of_mem _ (List.mem_append_left _ (List.mem_append_left _ (List.mem_append_right _ h)))) 1 rfl (zz_m 2 rfl) rfl dX6_deal_48 ?_
                refine zz_ci (WC := [(nb, .inr (0, [.ref ntx, .ref nst, .ref nct, .int 5, .int 0, .int 3, .int 0, .int 0, .int 10, .int 0, .int 0, .int 0, .int 0, .int (zz_nz (zz_nz (zz_nz (zz_nz (zz_nz (zz_nz (zz_nz (zz_nz (zz_nz (zz_nz (zz_nz (zz_nz (zz_nz (zz_nz (zz_nz (zz_nz 1))))))))))))))))]))]) (TC := []) (WR := [(x, .inr (6, [.ref tx0, .ref nb, .ref tb, .ref ib, .ref ah, .ref tp, .ref rd, .ref sh, .ref sl, .ref wt, .int 0, .int 0, .int 0, .int 0, .int 0])), (q5, .inr (4, [.int 0, .int 0, .int 0, .int 0])), (q6, .inr (4, [.int 0, .int 0, .int 0, .int 0])), (q7, .inr (4, [.int 0, .int 0, .int 0, .int 0])), (q8, .inr (4, [.int 0, .int 0, .int 0, .int 0])), (q0, .inr (4, [.int y9, .int y14, .int 100, .int y19])), (q1, .inr (4, [.int y28, .int y33, .int 100, .int y38])), (q2, .inr (4, [.int y47, .int y52, .int 100, .int y57])), (q3, .inr (4, [.int y66, .int y71, .int 100, .int y76])), (nst, .inl (kst, 9, .inr (.inr (.inr (.inr sf))))), (q4, .inr (4, [.int y85, .int y90, .int 100, .int y95]))]) (TR := [(kst, .object RX4)]) (k := 0) (n := 0) Z132 [11] [0, 1, 2, 3, 4, 5, 6, 7, 8, 9, 10] [] [0] rfl rfl (by decide +kernel) (by decide +kernel) (by decide +kernel) rfl rfl (fun Zc => va_runV (As := []) (rest := []) X (c_draw l D nb ntx nst nct 5 0 3 0 0 10 0 0 0 0 (zz_nz (zz_nz (zz_nz (zz_nz (zz_nz (zz_nz (zz_nz (zz_nz (zz_nz (zz_nz (zz_nz (zz_nz (zz_nz (zz_nz (zz_nz (zz_nz 1)))))))))))))))) H129.size) (cwV 0 hts gX6_deal_X0_draw rfl rfl rfl ⟨rfl, zh_X0_draw⟩ ⟨Nat.le_of_ble_eq_true rfl, Nat.le_of_ble_eq_true rfl⟩) (zz_pV (ci := 0) Zc 0 rfl rfl) rfl rfl hl134.1 rfl (lv_room (Nat.le_of_ble_eq_true rfl)) dX6_deal_51 ⟨Nat.le_of_ble_eq_true rfl, Nat.le_of_ble_eq_true rfl⟩) rfl rfl (fun r108 u106 H135 locs136 hw107 Z137 => ?_)
                clear Z132
                subst r108
                have Z138 : zz_S D A s [(x, .inr (6, [.ref tx0, .ref nb, .ref tb, .ref ib, .ref ah, .ref tp, .ref rd, .ref sh, .ref sl, .ref wt, .int 0, .int 0, .int 0, .int 0, .int 0])), (q5, .inr (4, [.int 0, .int 0, .int 0, .int 0])), (q6, .inr (4, [.int 0, .int 0, .int 0, .int 0])), (q7, .inr (4, [.int 0, .int 0, .int 0, .int 0])), (q8, .inr (4, [.int 0, .int 0, .int 0, .int 0])), (q0, .inr (4, [.int y9, .int y14, .int 100, .int y19])), (q1, .inr (4, [.int y28, .int y33, .int 100, .int y38])), (q2, .inr (4, [.int y47, .int y52, .int 100, .int y57])), (q3, .inr (4, [.int y66, .int y71, .int 100, .int y76])), (nst, .inl (kst, 9, .inr (.inr (.inr (.inr sf))))), (q4, .inr (4, [.int y85, .int y90, .int 100, .int y95])), (nb, .inr (0, [.ref ntx, .ref nst, .ref nct, .int 5, .int 0, .int 3, .int 0, .int 0, .int 10, .int 0, .int 0, .int 0, .int 0, .int (zz_nz (zz_nz (zz_nz (zz_nz (zz_nz (zz_nz (zz_nz (zz_nz (zz_nz (zz_nz (zz_nz (zz_nz (zz_nz (zz_nz (zz_nz (zz_nz (zz_nz 1)))))))))))))))))]))] [(kst, .object RX4)] H135 locs136 := Z137
                clear Z137
                refine lv_bipush (v := 12) hx hb dX6_deal_54 (by decide) ?_
                refine lv_irem hx hb dX6_deal_56 (by decide) ?_
                refine lv_topi (fun y109 ey110 => ?_)
                refine lv_istore (lv' := [(5, .int y109), (4, .int y104), (3, .int 5), (6, .int y95), (2, .int n), (0, .ref x), (1, .int n)]) hx hb dX6_deal_57 hl134 (by decide) rfl (fun ls139 hl140 => ?_)
                clear hl134
                refine lv_aload_n hx hb dX6_deal_59 rfl (lv_at hl140 5 rfl) ?_
                refine zz_get X Z138 0 rfl rfl (fun w h => List.mem_cons_of_mem _ (List.mem_append_left _ (List.mem_append_left _ (List.mem_append_right _ h)))) 1 rfl (zz_m 2 rfl) rfl dX6_deal_60 ?_
                refine zz_ci (WC := [(nb, .inr (0, [.ref ntx, .ref nst, .ref nct, .int 5, .int 0, .int 3, .int 0, .int 0, .int 10, .int 0, .int 0, .int 0, .int 0, .int (zz_nz (zz_nz (zz_nz (zz_nz (zz_nz (zz_nz (zz_nz (zz_nz (zz_nz (zz_nz (zz_nz (zz_nz (zz_nz (zz_nz (zz_nz (zz_nz (zz_nz 1)))))))))))))))))]))]) (TC := []) (WR := [(x, .inr (6, [.ref tx0, .ref nb, .ref tb, .ref ib, .ref ah, .ref tp, .ref rd, .ref sh, .ref sl, .ref wt, .int 0, .int 0, .int 0, .int 0, .int 0])), (q5, .inr (4, [.int 0, .int 0, .int 0, .int 0])), (q6, .inr (4, [.int 0, .int 0, .int 0, .int 0])), (q7, .inr (4, [.int 0, .int 0, .int 0, .int 0])), (q8, .inr (4, [.int 0, .int 0, .int 0, .int 0])), (q0, .inr (4, [.int y9, .int y14, .int 100, .int y19])), (q1, .inr (4, [.int y28, .int y33, .int 100, .int y38])), (q2, .inr (4, [.int y47, .int y52, .int 100, .int y57])), (q3, .inr (4, [.int y66, .int y71, .int 100, .int y76])), (nst, .inl (kst, 9, .inr (.inr (.inr (.inr sf))))), (q4, .inr (4, [.int y85, .int y90, .int 100, .int y95]))]) (TR := [(kst, .object RX4)]) (k := 0) (n := 0) Z138 [11] [0, 1, 2, 3, 4, 5, 6, 7, 8, 9, 10] [] [0] rfl rfl (by decide +kernel) (by decide +kernel) (by decide +kernel) rfl rfl (fun Zc => va_runV (As := []) (rest := []) X (c_draw l D nb ntx nst nct 5 0 3 0 0 10 0 0 0 0 (zz_nz (zz_nz (zz_nz (zz_nz (zz_nz (zz_nz (zz_nz (zz_nz (zz_nz (zz_nz (zz_nz (zz_nz (zz_nz (zz_nz (zz_nz (zz_nz (zz_nz 1))))))))))))))))) H135.size) (cwV 0 hts gX6_deal_X0_draw rfl rfl rfl ⟨rfl, zh_X0_draw⟩ ⟨Nat.le_of_ble_eq_true rfl, Nat.le_of_ble_eq_true rfl⟩) (zz_pV (ci := 0) Zc 0 rfl rfl) rfl rfl hl140.1 rfl (lv_room (Nat.le_of_ble_eq_true rfl)) dX6_deal_63 ⟨Nat.le_of_ble_eq_true rfl, Nat.le_of_ble_eq_true rfl⟩) rfl rfl (fun r113 u111 H141 locs142 hw112 Z143 => ?_)
                clear Z138
                subst r113
                have Z144 : zz_S D A s [(x, .inr (6, [.ref tx0, .ref nb, .ref tb, .ref ib, .ref ah, .ref tp, .ref rd, .ref sh, .ref sl, .ref wt, .int 0, .int 0, .int 0, .int 0, .int 0])), (q5, .inr (4, [.int 0, .int 0, .int 0, .int 0])), (q6, .inr (4, [.int 0, .int 0, .int 0, .int 0])), (q7, .inr (4, [.int 0, .int 0, .int 0, .int 0])), (q8, .inr (4, [.int 0, .int 0, .int 0, .int 0])), (q0, .inr (4, [.int y9, .int y14, .int 100, .int y19])), (q1, .inr (4, [.int y28, .int y33, .int 100, .int y38])), (q2, .inr (4, [.int y47, .int y52, .int 100, .int y57])), (q3, .inr (4, [.int y66, .int y71, .int 100, .int y76])), (nst, .inl (kst, 9, .inr (.inr (.inr (.inr sf))))), (q4, .inr (4, [.int y85, .int y90, .int 100, .int y95])), (nb, .inr (0, [.ref ntx, .ref nst, .ref nct, .int 5, .int 0, .int 3, .int 0, .int 0, .int 10, .int 0, .int 0, .int 0, .int 0, .int (zz_nz (zz_nz (zz_nz (zz_nz (zz_nz (zz_nz (zz_nz (zz_nz (zz_nz (zz_nz (zz_nz (zz_nz (zz_nz (zz_nz (zz_nz (zz_nz (zz_nz (zz_nz 1))))))))))))))))))]))] [(kst, .object RX4)] H141 locs142 := Z143
                clear Z143
                refine lv_bipush (v := 40) hx hb dX6_deal_66 (by decide) ?_
                refine lv_irem hx hb dX6_deal_68 (by decide) ?_
                refine lv_topi (fun y114 ey115 => ?_)
                refine lv_istore (lv' := [(6, .int y114), (5, .int y109), (4, .int y104), (3, .int 5), (2, .int n), (0, .ref x), (1, .int n)]) hx hb dX6_deal_69 hl140 (by decide) rfl (fun ls145 hl146 => ?_)
                clear hl140
                refine lv_aload_n hx hb dX6_deal_71 rfl (lv_at hl146 5 rfl) ?_
                refine zz_get X Z144 0 rfl rfl (fun w h => List.mem_cons_of_mem _ (List.mem_append_left _ (List.mem_append_left _ (List.mem_append_right _ h)))) 1 rfl (zz_m 2 rfl) rfl dX6_deal_72 ?_
                refine lv_iload hx hb dX6_deal_75 (lv_at hl146 2 rfl) ?_
                refine lv_iload hx hb dX6_deal_77 (lv_at hl146 1 rfl) ?_
                refine lv_iload hx hb dX6_deal_79 (lv_at hl146 0 rfl) ?_
                refine zz_ci (WC := [(nb, .inr (0, [.ref ntx, .ref nst, .ref nct, .int 5, .int 0, .int 3, .int 0, .int 0, .int 10, .int 0, .int 0, .int 0, .int 0, .int (zz_nz (zz_nz (zz_nz (zz_nz (zz_nz (zz_nz (zz_nz (zz_nz (zz_nz (zz_nz (zz_nz (zz_nz (zz_nz (zz_nz (zz_nz (zz_nz (zz_nz (zz_nz 1))))))))))))))))))])), (nst, .inl (kst, 9, .inr (.inr (.inr (.inr sf))))), (q5, .inr (4, [.int 0, .int 0, .int 0, .int 0]))]) (TC := [(kst, .object RX4)]) (WR := [(x, .inr (6, [.ref tx0, .ref nb, .ref tb, .ref ib, .ref ah, .ref tp, .ref rd, .ref sh, .ref sl, .ref wt, .int 0, .int 0, .int 0, .int 0, .int 0])), (q6, .inr (4, [.int 0, .int 0, .int 0, .int 0])), (q7, .inr (4, [.int 0, .int 0, .int 0, .int 0])), (q8, .inr (4, [.int 0, .int 0, .int 0, .int 0])), (q0, .inr (4, [.int y9, .int y14, .int 100, .int y19])), (q1, .inr (4, [.int y28, .int y33, .int 100, .int y38])), (q2, .inr (4, [.int y47, .int y52, .int 100, .int y57])), (q3, .inr (4, [.int y66, .int y71, .int 100, .int y76])), (q4, .inr (4, [.int y85, .int y90, .int 100, .int y95]))]) (TR := []) (k := 0) (n := 0) Z144 [11, 9, 1] [0, 2, 3, 4, 5, 6, 7, 8, 10] [0] [] rfl rfl (by decide +kernel) (by decide +kernel) (by decide +kernel) rfl rfl (fun Zc => va_runV (As := [.int y104, .int y109, .int y114]) (rest := []) X (c_open l D nb ntx nst nct 5 0 3 0 0 10 0 0 0 0 (zz_nz (zz_nz (zz_nz (zz_nz (zz_nz (zz_nz (zz_nz (zz_nz (zz_nz (zz_nz (zz_nz (zz_nz (zz_nz (zz_nz (zz_nz (zz_nz (zz_nz (zz_nz 1)))))))))))))))))) kst sf q5 0 0 0 0 y104 y109 y114 (by decide) (zz_in 5 9 rfl) asf_5 H141.size) (cwV 3 hts gX6_deal_X0_open rfl rfl rfl ⟨rfl, zh_X0_open⟩ ⟨Nat.le_of_ble_eq_true rfl, Nat.le_of_ble_eq_true rfl⟩) (zz_pV (ci := 0) Zc 0 rfl rfl) rfl rfl hl146.1 rfl (lv_room (Nat.le_of_ble_eq_true rfl)) dX6_deal_81 ⟨Nat.le_of_ble_eq_true rfl, Nat.le_of_ble_eq_true rfl⟩) rfl rfl (fun r118 u116 H147 locs148 hw117 Z149 => ?_)
                clear Z144
                have hw117 : r118 = 5 := hw117.trans (by decide)
                subst r118
                have Z150 : zz_S D A s [(x, .inr (6, [.ref tx0, .ref nb, .ref tb, .ref ib, .ref ah, .ref tp, .ref rd, .ref sh, .ref sl, .ref wt, .int 0, .int 0, .int 0, .int 0, .int 0])), (q6, .inr (4, [.int 0, .int 0, .int 0, .int 0])), (q7, .inr (4, [.int 0, .int 0, .int 0, .int 0])), (q8, .inr (4, [.int 0, .int 0, .int 0, .int 0])), (q0, .inr (4, [.int y9, .int y14, .int 100, .int y19])), (q1, .inr (4, [.int y28, .int y33, .int 100, .int y38])), (q2, .inr (4, [.int y47, .int y52, .int 100, .int y57])), (q3, .inr (4, [.int y66, .int y71, .int 100, .int y76])), (q4, .inr (4, [.int y85, .int y90, .int 100, .int y95])), (nb, .inr (0, [.ref ntx, .ref nst, .ref nct, .int 6, .int 0, .int 3, .int 0, .int 0, .int 10, .int 0, .int 0, .int 0, .int 0, .int (zz_nz (zz_nz (zz_nz (zz_nz (zz_nz (zz_nz (zz_nz (zz_nz (zz_nz (zz_nz (zz_nz (zz_nz (zz_nz (zz_nz (zz_nz (zz_nz (zz_nz (zz_nz 1))))))))))))))))))])), (nst, .inl (kst, 9, .inr (.inr (.inr (.inr sf))))), (q5, .inr (4, [.int y104, .int y109, .int 100, .int y114]))] [(kst, .object RX4)] H147 locs148 := Z149
                clear Z149
                refine lv_pop hx hb dX6_deal_84 rfl ?_
                refine lv_iinc (v := 6) (lv' := [(3, .int 6), (6, .int y114), (5, .int y109), (4, .int y104), (2, .int n), (0, .ref x), (1, .int n)]) hx hb dX6_deal_85 hl146 (k := 3) rfl (by decide) (by decide) rfl (fun ls151 hl152 => ?_)
                clear hl146
                refine lv_goto (tgt := 30) hx hb dX6_deal_88 (by decide) ?_
                refine lv_iload_n hx hb dX6_deal_30 rfl (lv_at hl152 0 rfl) ?_
                refine lv_iload_n hx hb dX6_deal_31 rfl (lv_at hl152 4 rfl) ?_
                refine lv_icmp_ge (tgt := 91) hx hb dX6_deal_32 (by decide) (fun b119 => ?_) (fun b119 => ?_)
                · refine lv_iload_n hx hb dX6_deal_91 rfl (lv_at hl152 4 rfl) ?_
                  exact zz_iret X hr hlk Z150 () (if_pos w4).symm [] [] (by decide +kernel) rfl rfl dX6_deal_92
                · refine lv_aload_n hx hb dX6_deal_35 rfl (lv_at hl152 5 rfl) ?_
                  refine zz_get X Z150 0 rfl rfl (fun w h => List.mem_cons_of_mem _ (List.mem_append_left _ (List.mem_append_left _ (List.mem_append_right _ h)))) 1 rfl (zz_m 2 rfl) rfl dX6_deal_36 ?_
                  refine zz_ci (WC := [(nb, .inr (0, [.ref ntx, .ref nst, .ref nct, .int 6, .int 0, .int 3, .int 0, .int 0, .int 10, .int 0, .int 0, .int 0, .int 0, .int (zz_nz (zz_nz (zz_nz (zz_nz (zz_nz (zz_nz (zz_nz (zz_nz (zz_nz (zz_nz (zz_nz (zz_nz (zz_nz (zz_nz (zz_nz (zz_nz (zz_nz (zz_nz 1))))))))))))))))))]))]) (TC := []) (WR := [(x, .inr (6, [.ref tx0, .ref nb, .ref tb, .ref ib, .ref ah, .ref tp, .ref rd, .ref sh, .ref sl, .ref wt, .int 0, .int 0, .int 0, .int 0, .int 0])), (q6, .inr (4, [.int 0, .int 0, .int 0, .int 0])), (q7, .inr (4, [.int 0, .int 0, .int 0, .int 0])), (q8, .inr (4, [.int 0, .int 0, .int 0, .int 0])), (q0, .inr (4, [.int y9, .int y14, .int 100, .int y19])), (q1, .inr (4, [.int y28, .int y33, .int 100, .int y38])), (q2, .inr (4, [.int y47, .int y52, .int 100, .int y57])), (q3, .inr (4, [.int y66, .int y71, .int 100, .int y76])), (q4, .inr (4, [.int y85, .int y90, .int 100, .int y95])), (nst, .inl (kst, 9, .inr (.inr (.inr (.inr sf))))), (q5, .inr (4, [.int y104, .int y109, .int 100, .int y114]))]) (TR := [(kst, .object RX4)]) (k := 0) (n := 0) Z150 [9] [0, 1, 2, 3, 4, 5, 6, 7, 8, 10, 11] [] [0] rfl rfl (by decide +kernel) (by decide +kernel) (by decide +kernel) rfl rfl (fun Zc => va_runV (As := []) (rest := []) X (c_draw l D nb ntx nst nct 6 0 3 0 0 10 0 0 0 0 (zz_nz (zz_nz (zz_nz (zz_nz (zz_nz (zz_nz (zz_nz (zz_nz (zz_nz (zz_nz (zz_nz (zz_nz (zz_nz (zz_nz (zz_nz (zz_nz (zz_nz (zz_nz 1)))))))))))))))))) H147.size) (cwV 0 hts gX6_deal_X0_draw rfl rfl rfl ⟨rfl, zh_X0_draw⟩ ⟨Nat.le_of_ble_eq_true rfl, Nat.le_of_ble_eq_true rfl⟩) (zz_pV (ci := 0) Zc 0 rfl rfl) rfl rfl hl152.1 rfl (lv_room (Nat.le_of_ble_eq_true rfl)) dX6_deal_39 ⟨Nat.le_of_ble_eq_true rfl, Nat.le_of_ble_eq_true rfl⟩) rfl rfl (fun r122 u120 H153 locs154 hw121 Z155 => ?_)
                  clear Z150
                  subst r122
                  have Z156 : zz_S D A s [(x, .inr (6, [.ref tx0, .ref nb, .ref tb, .ref ib, .ref ah, .ref tp, .ref rd, .ref sh, .ref sl, .ref wt, .int 0, .int 0, .int 0, .int 0, .int 0])), (q6, .inr (4, [.int 0, .int 0, .int 0, .int 0])), (q7, .inr (4, [.int 0, .int 0, .int 0, .int 0])), (q8, .inr (4, [.int 0, .int 0, .int 0, .int 0])), (q0, .inr (4, [.int y9, .int y14, .int 100, .int y19])), (q1, .inr (4, [.int y28, .int y33, .int 100, .int y38])), (q2, .inr (4, [.int y47, .int y52, .int 100, .int y57])), (q3, .inr (4, [.int y66, .int y71, .int 100, .int y76])), (q4, .inr (4, [.int y85, .int y90, .int 100, .int y95])), (nst, .inl (kst, 9, .inr (.inr (.inr (.inr sf))))), (q5, .inr (4, [.int y104, .int y109, .int 100, .int y114])), (nb, .inr (0, [.ref ntx, .ref nst, .ref nct, .int 6, .int 0, .int 3, .int 0, .int 0, .int 10, .int 0, .int 0, .int 0, .int 0, .int (zz_nz (zz_nz (zz_nz (zz_nz (zz_nz (zz_nz (zz_nz (zz_nz (zz_nz (zz_nz (zz_nz (zz_nz (zz_nz (zz_nz (zz_nz (zz_nz (zz_nz (zz_nz (zz_nz 1)))))))))))))))))))]))] [(kst, .object RX4)] H153 locs154 := Z155
                  clear Z155
                  refine lv_bipush (v := 6) hx hb dX6_deal_42 (by decide) ?_
                  refine lv_irem hx hb dX6_deal_44 (by decide) ?_
                  refine lv_topi (fun y123 ey124 => ?_)
                  refine lv_istore (lv' := [(4, .int y123), (3, .int 6), (6, .int y114), (5, .int y109), (2, .int n), (0, .ref x), (1, .int n)]) hx hb dX6_deal_45 hl152 (by decide) rfl (fun ls157 hl158 => ?_)
                  clear hl152
                  refine lv_aload_n hx hb dX6_deal_47 rfl (lv_at hl158 5 rfl) ?_
                  refine zz_get X Z156 0 rfl rfl (fun w h => List.mem_cons_of_mem _ (List.mem_append_left _ (List.mem_append_left _ (List.mem_append_right _ h)))) 1 rfl (zz_m 2 rfl) rfl dX6_deal_48 ?_
                  refine zz_ci (WC := [(nb, .inr (0, [.ref ntx, .ref nst, .ref nct, .int 6, .int 0, .int 3, .int 0, .int 0, .int 10, .int 0, .int 0, .int 0, .int 0, .int (zz_nz (zz_nz (zz_nz (zz_nz (zz_nz (zz_nz (zz_nz (zz_nz (zz_nz (zz_nz (zz_nz (zz_nz (zz_nz (zz_nz (zz_nz (zz_nz (zz_nz (zz_nz (zz_nz 1)))))))))))))))))))]))]) (TC := []) (WR := [(x, .inr (6, [.ref tx0, .ref nb, .ref tb, .ref ib, .ref ah, .ref tp, .ref rd, .ref sh, .ref sl, .ref wt, .int 0, .int 0, .int 0, .int 0, .int 0])), (q6, .inr (4, [.int 0, .int 0, .int 0, .int 0])), (q7, .inr (4, [.int 0, .int 0, .int 0, .int 0])), (q8, .inr (4, [.int 0, .int 0, .int 0, .int 0])), (q0, .inr (4, [.int y9, .int y14, .int 100, .int y19])), (q1, .inr (4, [.int y28, .int y33, .int 100, .int y38])), (q2, .inr (4, [.int y47, .int y52, .int 100, .int y57])), (q3, .inr (4, [.int y66, .int y71, .int 100, .int y76])), (q4, .inr (4, [.int y85, .int y90, .int 100, .int y95])), (nst, .inl (kst, 9, .inr (.inr (.inr (.inr sf))))), (q5, .inr (4, [.int y104, .int y109, .int 100, .int y114]))]) (TR := [(kst, .object RX4)]) (k := 0) (n := 0) Z156 [11] [0, 1, 2, 3, 4, 5, 6, 7, 8, 9, 10] [] [0] rfl rfl (by decide +kernel) (by decide +kernel) (by decide +kernel) rfl rfl (fun Zc => va_runV (As := []) (rest := []) X (c_draw l D nb ntx nst nct 6 0 3 0 0 10 0 0 0 0 (zz_nz (zz_nz (zz_nz (zz_nz (zz_nz (zz_nz (zz_nz (zz_nz (zz_nz (zz_nz (zz_nz (zz_nz (zz_nz (zz_nz (zz_nz (zz_nz (zz_nz (zz_nz (zz_nz 1))))))))))))))))))) H153.size) (cwV 0 hts gX6_deal_X0_draw rfl rfl rfl ⟨rfl, zh_X0_draw⟩ ⟨Nat.le_of_ble_eq_true rfl, Nat.le_of_ble_eq_true rfl⟩) (zz_pV (ci := 0) Zc 0 rfl rfl) rfl rfl hl158.1 rfl (lv_room (Nat.le_of_ble_eq_true rfl)) dX6_deal_51 ⟨Nat.le_of_ble_eq_true rfl, Nat.le_of_ble_eq_true rfl⟩) rfl rfl (fun r127 u125 H159 locs160 hw126 Z161 => ?_)
                  clear Z156
                  subst r127
                  have Z162 : zz_S D A s [(x, .inr (6, [.ref tx0, .ref nb, .ref tb, .ref ib, .ref ah, .ref tp, .ref rd, .ref sh, .ref sl, .ref wt, .int 0, .int 0, .int 0, .int 0, .int 0])), (q6, .inr (4, [.int 0, .int 0, .int 0, .int 0])), (q7, .inr (4, [.int 0, .int 0, .int 0, .int 0])), (q8, .inr (4, [.int 0, .int 0, .int 0, .int 0])), (q0, .inr (4, [.int y9, .int y14, .int 100, .int y19])), (q1, .inr (4, [.int y28, .int y33, .int 100, .int y38])), (q2, .inr (4, [.int y47, .int y52, .int 100, .int y57])), (q3, .inr (4, [.int y66, .int y71, .int 100, .int y76])), (q4, .inr (4, [.int y85, .int y90, .int 100, .int y95])), (nst, .inl (kst, 9, .inr (.inr (.inr (.inr sf))))), (q5, .inr (4, [.int y104, .int y109, .int 100, .int y114])), (nb, .inr (0, [.ref ntx, .ref nst, .ref nct, .int 6, .int 0, .int 3, .int 0, .int 0, .int 10, .int 0, .int 0, .int 0, .int 0, .int (zz_nz (zz_nz (zz_nz (zz_nz (zz_nz (zz_nz (zz_nz (zz_nz (zz_nz (zz_nz (zz_nz (zz_nz (zz_nz (zz_nz (zz_nz (zz_nz (zz_nz (zz_nz (zz_nz (zz_nz 1))))))))))))))))))))]))] [(kst, .object RX4)] H159 locs160 := Z161
                  clear Z161
                  refine lv_bipush (v := 12) hx hb dX6_deal_54 (by decide) ?_
                  refine lv_irem hx hb dX6_deal_56 (by decide) ?_
                  refine lv_topi (fun y128 ey129 => ?_)
                  refine lv_istore (lv' := [(5, .int y128), (4, .int y123), (3, .int 6), (6, .int y114), (2, .int n), (0, .ref x), (1, .int n)]) hx hb dX6_deal_57 hl158 (by decide) rfl (fun ls163 hl164 => ?_)
                  clear hl158
                  refine lv_aload_n hx hb dX6_deal_59 rfl (lv_at hl164 5 rfl) ?_
                  refine zz_get X Z162 0 rfl rfl (fun w h => List.mem_cons_of_mem _ (List.mem_append_left _ (List.mem_append_left _ (List.mem_append_right _ h)))) 1 rfl (zz_m 2 rfl) rfl dX6_deal_60 ?_
                  refine zz_ci (WC := [(nb, .inr (0, [.ref ntx, .ref nst, .ref nct, .int 6, .int 0, .int 3, .int 0, .int 0, .int 10, .int 0, .int 0, .int 0, .int 0, .int (zz_nz (zz_nz (zz_nz (zz_nz (zz_nz (zz_nz (zz_nz (zz_nz (zz_nz (zz_nz (zz_nz (zz_nz (zz_nz (zz_nz (zz_nz (zz_nz (zz_nz (zz_nz (zz_nz (zz_nz 1))))))))))))))))))))]))]) (TC := []) (WR := [(x, .inr (6, [.ref tx0, .ref nb, .ref tb, .ref ib, .ref ah, .ref tp, .ref rd, .ref sh, .ref sl, .ref wt, .int 0, .int 0, .int 0, .int 0, .int 0])), (q6, .inr (4, [.int 0, .int 0, .int 0, .int 0])), (q7, .inr (4, [.int 0, .int 0, .int 0, .int 0])), (q8, .inr (4, [.int 0, .int 0, .int 0, .int 0])), (q0, .inr (4, [.int y9, .int y14, .int 100, .int y19])), (q1, .inr (4, [.int y28, .int y33, .int 100, .int y38])), (q2, .inr (4, [.int y47, .int y52, .int 100, .int y57])), (q3, .inr (4, [.int y66, .int y71, .int 100, .int y76])), (q4, .inr (4, [.int y85, .int y90, .int 100, .int y95])), (nst, .inl (kst, 9, .inr (.inr (.inr (.inr sf))))), (q5, .inr (4, [.int y104, .int y109, .int 100, .int y114]))]) (TR := [(kst, .object RX4)]) (k := 0) (n := 0) Z162 [11] [0, 1, 2, 3, 4, 5, 6, 7, 8, 9, 10] [] [0] rfl rfl (by decide +kernel) (by decide +kernel) (by decide +kernel) rfl rfl (fun Zc => va_runV (As := []) (rest := []) X (c_draw l D nb ntx nst nct 6 0 3 0 0 10 0 0 0 0 (zz_nz (zz_nz (zz_nz (zz_nz (zz_nz (zz_nz (zz_nz (zz_nz (zz_nz (zz_nz (zz_nz (zz_nz (zz_nz (zz_nz (zz_nz (zz_nz (zz_nz (zz_nz (zz_nz (zz_nz 1)))))))))))))))))))) H159.size) (cwV 0 hts gX6_deal_X0_draw rfl rfl rfl ⟨rfl, zh_X0_draw⟩ ⟨Nat.le_of_ble_eq_true rfl, Nat.le_of_ble_eq_true rfl⟩) (zz_pV (ci := 0) Zc 0 rfl rfl) rfl rfl hl164.1 rfl (lv_room (Nat.le_of_ble_eq_true rfl)) dX6_deal_63 ⟨Nat.le_of_ble_eq_true rfl, Nat.le_of_ble_eq_true rfl⟩) rfl rfl (fun r132 u130 H165 locs166 hw131 Z167 => ?_)
                  clear Z162
                  subst r132
                  have Z168 : zz_S D A s [(x, .inr (6, [.ref tx0, .ref nb, .ref tb, .ref ib, .ref ah, .ref tp, .ref rd, .ref sh, .ref sl, .ref wt, .int 0, .int 0, .int 0, .int 0, .int 0])), (q6, .inr (4, [.int 0, .int 0, .int 0, .int 0])), (q7, .inr (4, [.int 0, .int 0, .int 0, .int 0])), (q8, .inr (4, [.int 0, .int 0, .int 0, .int 0])), (q0, .inr (4, [.int y9, .int y14, .int 100, .int y19])), (q1, .inr (4, [.int y28, .int y33, .int 100, .int y38])), (q2, .inr (4, [.int y47, .int y52, .int 100, .int y57])), (q3, .inr (4, [.int y66, .int y71, .int 100, .int y76])), (q4, .inr (4, [.int y85, .int y90, .int 100, .int y95])), (nst, .inl (kst, 9, .inr (.inr (.inr (.inr sf))))), (q5, .inr (4, [.int y104, .int y109, .int 100, .int y114])), (nb, .inr (0, [.ref ntx, .ref nst, .ref nct, .int 6, .int 0, .int 3, .int 0, .int 0, .int 10, .int 0, .int 0, .int 0, .int 0, .int (zz_nz (zz_nz (zz_nz (zz_nz (zz_nz (zz_nz (zz_nz (zz_nz (zz_nz (zz_nz (zz_nz (zz_nz (zz_nz (zz_nz (zz_nz (zz_nz (zz_nz (zz_nz (zz_nz (zz_nz (zz_nz 1)))))))))))))))))))))]))] [(kst, .object RX4)] H165 locs166 := Z167
                  clear Z167
                  refine lv_bipush (v := 40) hx hb dX6_deal_66 (by decide) ?_
                  refine lv_irem hx hb dX6_deal_68 (by decide) ?_
                  refine lv_topi (fun y133 ey134 => ?_)
                  refine lv_istore (lv' := [(6, .int y133), (5, .int y128), (4, .int y123), (3, .int 6), (2, .int n), (0, .ref x), (1, .int n)]) hx hb dX6_deal_69 hl164 (by decide) rfl (fun ls169 hl170 => ?_)
                  clear hl164
                  refine lv_aload_n hx hb dX6_deal_71 rfl (lv_at hl170 5 rfl) ?_
                  refine zz_get X Z168 0 rfl rfl (fun w h => List.mem_cons_of_mem _ (List.mem_append_left _ (List.mem_append_left _ (List.mem_append_right _ h)))) 1 rfl (zz_m 2 rfl) rfl dX6_deal_72 ?_
                  refine lv_iload hx hb dX6_deal_75 (lv_at hl170 2 rfl) ?_
                  refine lv_iload hx hb dX6_deal_77 (lv_at hl170 1 rfl) ?_
                  refine lv_iload hx hb dX6_deal_79 (lv_at hl170 0 rfl) ?_
                  refine zz_ci (WC := [(nb, .inr (0, [.ref ntx, .ref nst, .ref nct, .int 6, .int 0, .int 3, .int 0, .int 0, .int 10, .int 0, .int 0, .int 0, .int 0, .int (zz_nz (zz_nz (zz_nz (zz_nz (zz_nz (zz_nz (zz_nz (zz_nz (zz_nz (zz_nz (zz_nz (zz_nz (zz_nz (zz_nz (zz_nz (zz_nz (zz_nz (zz_nz (zz_nz (zz_nz (zz_nz 1)))))))))))))))))))))])), (nst, .inl (kst, 9, .inr (.inr (.inr (.inr sf))))), (q6, .inr (4, [.int 0, .int 0, .int 0, .int 0]))]) (TC := [(kst, .object RX4)]) (WR := [(x, .inr (6, [.ref tx0, .ref nb, .ref tb, .ref ib, .ref ah, .ref tp, .ref rd, .ref sh, .ref sl, .ref wt, .int 0, .int 0, .int 0, .int 0, .int 0])), (q7, .inr (4, [.int 0, .int 0, .int 0, .int 0])), (q8, .inr (4, [.int 0, .int 0, .int 0, .int 0])), (q0, .inr (4, [.int y9, .int y14, .int 100, .int y19])), (q1, .inr (4, [.int y28, .int y33, .int 100, .int y38])), (q2, .inr (4, [.int y47, .int y52, .int 100, .int y57])), (q3, .inr (4, [.int y66, .int y71, .int 100, .int y76])), (q4, .inr (4, [.int y85, .int y90, .int 100, .int y95])), (q5, .inr (4, [.int y104, .int y109, .int 100, .int y114]))]) (TR := []) (k := 0) (n := 0) Z168 [11, 9, 1] [0, 2, 3, 4, 5, 6, 7, 8, 10] [0] [] rfl rfl (by decide +kernel) (by decide +kernel) (by decide +kernel) rfl rfl (fun Zc => va_runV (As := [.int y123, .int y128, .int y133]) (rest := []) X (c_open l D nb ntx nst nct 6 0 3 0 0 10 0 0 0 0 (zz_nz (zz_nz (zz_nz (zz_nz (zz_nz (zz_nz (zz_nz (zz_nz (zz_nz (zz_nz (zz_nz (zz_nz (zz_nz (zz_nz (zz_nz (zz_nz (zz_nz (zz_nz (zz_nz (zz_nz (zz_nz 1))))))))))))))))))))) kst sf q6 0 0 0 0 y123 y128 y133 (by decide) (zz_in 6 9 rfl) asf_6 H165.size) (cwV 3 hts gX6_deal_X0_open rfl rfl rfl ⟨rfl, zh_X0_open⟩ ⟨Nat.le_of_ble_eq_true rfl, Nat.le_of_ble_eq_true rfl⟩) (zz_pV (ci := 0) Zc 0 rfl rfl) rfl rfl hl170.1 rfl (lv_room (Nat.le_of_ble_eq_true rfl)) dX6_deal_81 ⟨Nat.le_of_ble_eq_true rfl, Nat.le_of_ble_eq_true rfl⟩) rfl rfl (fun r137 u135 H171 locs172 hw136 Z173 => ?_)
                  clear Z168
                  have hw136 : r137 = 6 := hw136.trans (by decide)
                  subst r137
                  have Z174 : zz_S D A s [(x, .inr (6, [.ref tx0, .ref nb, .ref tb, .ref ib, .ref ah, .ref tp, .ref rd, .ref sh, .ref sl, .ref wt, .int 0, .int 0, .int 0, .int 0, .int 0])), (q7, .inr (4, [.int 0, .int 0, .int 0, .int 0])), (q8, .inr (4, [.int 0, .int 0, .int 0, .int 0])), (q0, .inr (4, [.int y9, .int y14, .int 100, .int y19])), (q1, .inr (4, [.int y28, .int y33, .int 100, .int y38])), (q2, .inr (4, [.int y47, .int y52, .int 100, .int y57])), (q3, .inr (4, [.int y66, .int y71, .int 100, .int y76])), (q4, .inr (4, [.int y85, .int y90, .int 100, .int y95])), (q5, .inr (4, [.int y104, .int y109, .int 100, .int y114])), (nb, .inr (0, [.ref ntx, .ref nst, .ref nct, .int 7, .int 0, .int 3, .int 0, .int 0, .int 10, .int 0, .int 0, .int 0, .int 0, .int (zz_nz (zz_nz (zz_nz (zz_nz (zz_nz (zz_nz (zz_nz (zz_nz (zz_nz (zz_nz (zz_nz (zz_nz (zz_nz (zz_nz (zz_nz (zz_nz (zz_nz (zz_nz (zz_nz (zz_nz (zz_nz 1)))))))))))))))))))))])), (nst, .inl (kst, 9, .inr (.inr (.inr (.inr sf))))), (q6, .inr (4, [.int y123, .int y128, .int 100, .int y133]))] [(kst, .object RX4)] H171 locs172 := Z173
                  clear Z173
                  refine lv_pop hx hb dX6_deal_84 rfl ?_
                  refine lv_iinc (v := 7) (lv' := [(3, .int 7), (6, .int y133), (5, .int y128), (4, .int y123), (2, .int n), (0, .ref x), (1, .int n)]) hx hb dX6_deal_85 hl170 (k := 3) rfl (by decide) (by decide) rfl (fun ls175 hl176 => ?_)
                  clear hl170
                  refine lv_goto (tgt := 30) hx hb dX6_deal_88 (by decide) ?_
                  refine lv_iload_n hx hb dX6_deal_30 rfl (lv_at hl176 0 rfl) ?_
                  refine lv_iload_n hx hb dX6_deal_31 rfl (lv_at hl176 4 rfl) ?_
                  refine lv_icmp_ge (tgt := 91) hx hb dX6_deal_32 (by decide) (fun b138 => ?_) (fun b138 => ?_)
                  · refine lv_iload_n hx hb dX6_deal_91 rfl (lv_at hl176 4 rfl) ?_
                    exact zz_iret X hr hlk Z174 () (if_pos w4).symm [] [] (by decide +kernel) rfl rfl dX6_deal_92
                  · refine lv_aload_n hx hb dX6_deal_35 rfl (lv_at hl176 5 rfl) ?_
                    refine zz_get X Z174 0 rfl rfl (fun w h => List.mem_cons_of_mem _ (List.mem_append_left _ (List.mem_append_left _ (List.mem_append_right _ h)))) 1 rfl (zz_m 2 rfl) rfl dX6_deal_36 ?_
                    refine zz_ci (WC := [(nb, .inr (0, [.ref ntx, .ref nst, .ref nct, .int 7, .int 0, .int 3, .int 0, .int 0, .int 10, .int 0, .int 0, .int 0, .int 0, .int (zz_nz (zz_nz (zz_nz (zz_nz (zz_nz (zz_nz (zz_nz (zz_nz (zz_nz (zz_nz (zz_nz (zz_nz (zz_nz (zz_nz (zz_nz (zz_nz (zz_nz (zz_nz (zz_nz (zz_nz (zz_nz 1)))))))))))))))))))))]))]) (TC := []) (WR := [(x, .inr (6, [.ref tx0, .ref nb, .ref tb, .ref ib, .ref ah, .ref tp, .ref rd, .ref sh, .ref sl, .ref wt, .int 0, .int 0, .int 0, .int 0, .int 0])), (q7, .inr (4, [.int 0, .int 0, .int 0, .int 0])), (q8, .inr (4, [.int 0, .int 0, .int 0, .int 0])), (q0, .inr (4, [.int y9, .int y14, .int 100, .int y19])), (q1, .inr (4, [.int y28, .int y33, .int 100, .int y38])), (q2, .inr (4, [.int y47, .int y52, .int 100, .int y57])), (q3, .inr (4, [.int y66, .int y71, .int 100, .int y76])), (q4, .inr (4, [.int y85, .int y90, .int 100, .int y95])), (q5, .inr (4, [.int y104, .int y109, .int 100, .int y114])), (nst, .inl (kst, 9, .inr (.inr (.inr (.inr sf))))), (q6, .inr (4, [.int y123, .int y128, .int 100, .int y133]))]) (TR := [(kst, .object RX4)]) (k := 0) (n := 0) Z174 [9] [0, 1, 2, 3, 4, 5, 6, 7, 8, 10, 11] [] [0] rfl rfl (by decide +kernel) (by decide +kernel) (by decide +kernel) rfl rfl (fun Zc => va_runV (As := []) (rest := []) X (c_draw l D nb ntx nst nct 7 0 3 0 0 10 0 0 0 0 (zz_nz (zz_nz (zz_nz (zz_nz (zz_nz (zz_nz (zz_nz (zz_nz (zz_nz (zz_nz (zz_nz (zz_nz (zz_nz (zz_nz (zz_nz (zz_nz (zz_nz (zz_nz (zz_nz (zz_nz (zz_nz 1))))))))))))))))))))) H171.size) (cwV 0 hts gX6_deal_X0_draw rfl rfl rfl ⟨rfl, zh_X0_draw⟩ ⟨Nat.le_of_ble_eq_true rfl, Nat.le_of_ble_eq_true rfl⟩) (zz_pV (ci := 0) Zc 0 rfl rfl) rfl rfl hl176.1 rfl (lv_room (Nat.le_of_ble_eq_true rfl)) dX6_deal_39 ⟨Nat.le_of_ble_eq_true rfl, Nat.le_of_ble_eq_true rfl⟩) rfl rfl (fun r141 u139 H177 locs178 hw140 Z179 => ?_)
                    clear Z174
                    subst r141
                    have Z180 : zz_S D A s [(x, .inr (6, [.ref tx0, .ref nb, .ref tb, .ref ib, .ref ah, .ref tp, .ref rd, .ref sh, .ref sl, .ref wt, .int 0, .int 0, .int 0, .int 0, .int 0])), (q7, .inr (4, [.int 0, .int 0, .int 0, .int 0])), (q8, .inr (4, [.int 0, .int 0, .int 0, .int 0])), (q0, .inr (4, [.int y9, .int y14, .int 100, .int y19])), (q1, .inr (4, [.int y28, .int y33, .int 100, .int y38])), (q2, .inr (4, [.int y47, .int y52, .int 100, .int y57])), (q3, .inr (4, [.int y66, .int y71, .int 100, .int y76])), (q4, .inr (4, [.int y85, .int y90, .int 100, .int y95])), (q5, .inr (4, [.int y104, .int y109, .int 100, .int y114])), (nst, .inl (kst, 9, .inr (.inr (.inr (.inr sf))))), (q6, .inr (4, [.int y123, .int y128, .int 100, .int y133])), (nb, .inr (0, [.ref ntx, .ref nst, .ref nct, .int 7, .int 0, .int 3, .int 0, .int 0, .int 10, .int 0, .int 0, .int 0, .int 0, .int (zz_nz (zz_nz (zz_nz (zz_nz (zz_nz (zz_nz (zz_nz (zz_nz (zz_nz (zz_nz (zz_nz (zz_nz (zz_nz (zz_nz (zz_nz (zz_nz (zz_nz (zz_nz (zz_nz (zz_nz (zz_nz (zz_nz 1))))))))))))))))))))))]))] [(kst, .object RX4)] H177 locs178 := Z179
                    clear Z179
                    refine lv_bipush (v := 6) hx hb dX6_deal_42 (by decide) ?_
                    refine lv_irem hx hb dX6_deal_44 (by decide) ?_
                    refine lv_topi (fun y142 ey143 => ?_)
                    refine lv_istore (lv' := [(4, .int y142), (3, .int 7), (6, .int y133), (5, .int y128), (2, .int n), (0, .ref x), (1, .int n)]) hx hb dX6_deal_45 hl176 (by decide) rfl (fun ls181 hl182 => ?_)
                    clear hl176
                    refine lv_aload_n hx hb dX6_deal_47 rfl (lv_at hl182 5 rfl) ?_
                    refine zz_get X Z180 0 rfl rfl (fun w h => List.mem_cons_of_mem _ (List.mem_append_left _ (List.mem_append_left _ (List.mem_append_right _ h)))) 1 rfl (zz_m 2 rfl) rfl dX6_deal_48 ?_
                    refine zz_ci (WC := [(nb, .inr (0, [.ref ntx, .ref nst, .ref nct, .int 7, .int 0, .int 3, .int 0, .int 0, .int 10, .int 0, .int 0, .int 0, .int 0, .int (zz_nz (zz_nz (zz_nz (zz_nz (zz_nz (zz_nz (zz_nz (zz_nz (zz_nz (zz_nz (zz_nz (zz_nz (zz_nz (zz_nz (zz_nz (zz_nz (zz_nz (zz_nz (zz_nz (zz_nz (zz_nz (zz_nz 1))))))))))))))))))))))]))]) (TC := []) (WR := [(x, .inr (6, [.ref tx0, .ref nb, .ref tb, .ref ib, .ref ah, .ref tp, .ref rd, .ref sh, .ref sl, .ref wt, .int 0, .int 0, .int 0, .int 0, .int 0])), (q7, .inr (4, [.int 0, .int 0, .int 0, .int 0])), (q8, .inr (4, [.int 0, .int 0, .int 0, .int 0])), (q0, .inr (4, [.int y9, .int y14, .int 100, .int y19])), (q1, .inr (4, [.int y28, .int y33, .int 100, .int y38])), (q2, .inr (4, [.int y47, .int y52, .int 100, .int y57])), (q3, .inr (4, [.int y66, .int y71, .int 100, .int y76])), (q4, .inr (4, [.int y85, .int y90, .int 100, .int y95])), (q5, .inr (4, [.int y104, .int y109, .int 100, .int y114])), (nst, .inl (kst, 9, .inr (.inr (.inr (.inr sf))))), (q6, .inr (4, [.int y123, .int y128, .int 100, .int y133]))]) (TR := [(kst, .object RX4)]) (k := 0) (n := 0) Z180 [11] [0, 1, 2, 3, 4, 5, 6, 7, 8, 9, 10] [] [0] rfl rfl (by decide +kernel) (by decide +kernel) (by decide +kernel) rfl rfl (fun Zc => va_runV (As := []) (rest := []) X (c_draw l D nb ntx nst nct 7 0 3 0 0 10 0 0 0 0 (zz_nz (zz_nz (zz_nz (zz_nz (zz_nz (zz_nz (zz_nz (zz_nz (zz_nz (zz_nz (zz_nz (zz_nz (zz_nz (zz_nz (zz_nz (zz_nz (zz_nz (zz_nz (zz_nz (zz_nz (zz_nz (zz_nz 1)))))))))))))))))))))) H177.size) (cwV 0 hts gX6_deal_X0_draw rfl rfl rfl ⟨rfl, zh_X0_draw⟩ ⟨Nat.le_of_ble_eq_true rfl, Nat.le_of_ble_eq_true rfl⟩) (zz_pV (ci := 0) Zc 0 rfl rfl) rfl rfl hl182.1 rfl (lv_room (Nat.le_of_ble_eq_true rfl)) dX6_deal_51 ⟨Nat.le_of_ble_eq_true rfl, Nat.le_of_ble_eq_true rfl⟩) rfl rfl (fun r146 u144 H183 locs184 hw145 Z185 => ?_)
                    clear Z180
                    subst r146
                    have Z186 : zz_S D A s [(x, .inr (6, [.ref tx0, .ref nb, .ref tb, .ref ib, .ref ah, .ref tp, .ref rd, .ref sh, .ref sl, .ref wt, .int 0, .int 0, .int 0, .int 0, .int 0])), (q7, .inr (4, [.int 0, .int 0, .int 0, .int 0])), (q8, .inr (4, [.int 0, .int 0, .int 0, .int 0])), (q0, .inr (4, [.int y9, .int y14, .int 100, .int y19])), (q1, .inr (4, [.int y28, .int y33, .int 100, .int y38])), (q2, .inr (4, [.int y47, .int y52, .int 100, .int y57])), (q3, .inr (4, [.int y66, .int y71, .int 100, .int y76])), (q4, .inr (4, [.int y85, .int y90, .int 100, .int y95])), (q5, .inr (4, [.int y104, .int y109, .int 100, .int y114])), (nst, .inl (kst, 9, .inr (.inr (.inr (.inr sf))))), (q6, .inr (4, [.int y123, .int y128, .int 100, .int y133])), (nb, .inr (0, [.ref ntx, .ref nst, .ref nct, .int 7, .int 0, .int 3, .int 0, .int 0, .int 10, .int 0, .int 0, .int 0, .int 0, .int (zz_nz (zz_nz (zz_nz (zz_nz (zz_nz (zz_nz (zz_nz (zz_nz (zz_nz (zz_nz (zz_nz (zz_nz (zz_nz (zz_nz (zz_nz (zz_nz (zz_nz (zz_nz (zz_nz (zz_nz (zz_nz (zz_nz (zz_nz 1)))))))))))))))))))))))]))] [(kst, .object RX4)] H183 locs184 := Z185
                    clear Z185
                    refine lv_bipush (v := 12) hx hb dX6_deal_54 (by decide) ?_
                    refine lv_irem hx hb dX6_deal_56 (by decide) ?_
                    refine lv_topi (fun y147 ey148 => ?_)
                    refine lv_istore (lv' := [(5, .int y147), (4, .int y142), (3, .int 7), (6, .int y133), (2, .int n), (0, .ref x), (1, .int n)]) hx hb dX6_deal_57 hl182 (by decide) rfl (fun ls187 hl188 => ?_)
                    clear hl182
                    refine lv_aload_n hx hb dX6_deal_59 rfl (lv_at hl188 5 rfl) ?_
                    refine zz_get X Z186 0 rfl rfl (fun w h => List.mem_cons_of_mem _ (List.mem_append_left _ (List.mem_append_left _ (List.mem_append_right _ h)))) 1 rfl (zz_m 2 rfl) rfl dX6_deal_60 ?_
                    refine zz_ci (WC := [(nb, .inr (0, [.ref ntx, .ref nst, .ref nct, .int 7, .int 0, .int 3, .int 0, .int 0, .int 10, .int 0, .int 0, .int 0, .int 0, .int (zz_nz (zz_nz (zz_nz (zz_nz (zz_nz (zz_nz (zz_nz (zz_nz (zz_nz (zz_nz (zz_nz (zz_nz (zz_nz (zz_nz (zz_nz (zz_nz (zz_nz (zz_nz (zz_nz (zz_nz (zz_nz (zz_nz (zz_nz 1)))))))))))))))))))))))]))]) (TC := []) (WR := [(x, .inr (6, [.ref tx0, .ref nb, .ref tb, .ref ib, .ref ah, .ref tp, .ref rd, .ref sh, .ref sl, .ref wt, .int 0, .int 0, .int 0, .int 0, .int 0])), (q7, .inr (4, [.int 0, .int 0, .int 0, .int 0])), (q8, .inr (4, [.int 0, .int 0, .int 0, .int 0])), (q0, .inr (4, [.int y9, .int y14, .int 100, .int y19])), (q1, .inr (4, [.int y28, .int y33, .int 100, .int y38])), (q2, .inr (4, [.int y47, .int y52, .int 100, .int y57])), (q3, .inr (4, [.int y66, .int y71, .int 100, .int y76])), (q4, .inr (4, [.int y85, .int y90, .int 100, .int y95])), (q5, .inr (4, [.int y104, .int y109, .int 100, .int y114])), (nst, .inl (kst, 9, .inr (.inr (.inr (.inr sf))))), (q6, .inr (4, [.int y123, .int y128, .int 100, .int y133]))]) (TR := [(kst, .object RX4)]) (k := 0) (n := 0) Z186 [11] [0, 1, 2, 3, 4, 5, 6, 7, 8, 9, 10] [] [0] rfl rfl (by decide +kernel) (by decide +kernel) (by decide +kernel) rfl rfl (fun Zc => va_runV (As := []) (rest := []) X (c_draw l D nb ntx nst nct 7 0 3 0 0 10 0 0 0 0 (zz_nz (zz_nz (zz_nz (zz_nz (zz_nz (zz_nz (zz_nz (zz_nz (zz_nz (zz_nz (zz_nz (zz_nz (zz_nz (zz_nz (zz_nz (zz_nz (zz_nz (zz_nz (zz_nz (zz_nz (zz_nz (zz_nz (zz_nz 1))))))))))))))))))))))) H183.size) (cwV 0 hts gX6_deal_X0_draw rfl rfl rfl ⟨rfl, zh_X0_draw⟩ ⟨Nat.le_of_ble_eq_true rfl, Nat.le_of_ble_eq_true rfl⟩) (zz_pV (ci := 0) Zc 0 rfl rfl) rfl rfl hl188.1 rfl (lv_room (Nat.le_of_ble_eq_true rfl)) dX6_deal_63 ⟨Nat.le_of_ble_eq_true rfl, Nat.le_of_ble_eq_true rfl⟩) rfl rfl (fun r151 u149 H189 locs190 hw150 Z191 => ?_)
                    clear Z186
                    subst r151
                    have Z192 : zz_S D A s [(x, .inr (6, [.ref tx0, .ref nb, .ref tb, .ref ib, .ref ah, .ref tp, .ref rd, .ref sh, .ref sl, .ref wt, .int 0, .int 0, .int 0, .int 0, .int 0])), (q7, .inr (4, [.int 0, .int 0, .int 0, .int 0])), (q8, .inr (4, [.int 0, .int 0, .int 0, .int 0])), (q0, .inr (4, [.int y9, .int y14, .int 100, .int y19])), (q1, .inr (4, [.int y28, .int y33, .int 100, .int y38])), (q2, .inr (4, [.int y47, .int y52, .int 100, .int y57])), (q3, .inr (4, [.int y66, .int y71, .int 100, .int y76])), (q4, .inr (4, [.int y85, .int y90, .int 100, .int y95])), (q5, .inr (4, [.int y104, .int y109, .int 100, .int y114])), (nst, .inl (kst, 9, .inr (.inr (.inr (.inr sf))))), (q6, .inr (4, [.int y123, .int y128, .int 100, .int y133])), (nb, .inr (0, [.ref ntx, .ref nst, .ref nct, .int 7, .int 0, .int 3, .int 0, .int 0, .int 10, .int 0, .int 0, .int 0, .int 0, .int (zz_nz (zz_nz (zz_nz (zz_nz (zz_nz (zz_nz (zz_nz (zz_nz (zz_nz (zz_nz (zz_nz (zz_nz (zz_nz (zz_nz (zz_nz (zz_nz (zz_nz (zz_nz (zz_nz (zz_nz (zz_nz (zz_nz (zz_nz (zz_nz 1))))))))))))))))))))))))]))] [(kst, .object RX4)] H189 locs190 := Z191
                    clear Z191
                    refine lv_bipush (v := 40) hx hb dX6_deal_66 (by decide) ?_
                    refine lv_irem hx hb dX6_deal_68 (by decide) ?_
                    refine lv_topi (fun y152 ey153 => ?_)
                    refine lv_istore (lv' := [(6, .int y152), (5, .int y147), (4, .int y142), (3, .int 7), (2, .int n), (0, .ref x), (1, .int n)]) hx hb dX6_deal_69 hl188 (by decide) rfl (fun ls193 hl194 => ?_)
                    clear hl188
                    refine lv_aload_n hx hb dX6_deal_71 rfl (lv_at hl194 5 rfl) ?_
                    refine zz_get X Z192 0 rfl rfl (fun w h => List.mem_cons_of_mem _ (List.mem_append_left _ (List.mem_append_left _ (List.mem_append_right _ h)))) 1 rfl (zz_m 2 rfl) rfl dX6_deal_72 ?_
                    refine lv_iload hx hb dX6_deal_75 (lv_at hl194 2 rfl) ?_
                    refine lv_iload hx hb dX6_deal_77 (lv_at hl194 1 rfl) ?_
                    refine lv_iload hx hb dX6_deal_79 (lv_at hl194 0 rfl) ?_
                    refine zz_ci (WC := [(nb, .inr (0, [.ref ntx, .ref nst, .ref nct, .int 7, .int 0, .int 3, .int 0, .int 0, .int 10, .int 0, .int 0, .int 0, .int 0, .int (zz_nz (zz_nz (zz_nz (zz_nz (zz_nz (zz_nz (zz_nz (zz_nz (zz_nz (zz_nz (zz_nz (zz_nz (zz_nz (zz_nz (zz_nz (zz_nz (zz_nz (zz_nz (zz_nz (zz_nz (zz_nz (zz_nz (zz_nz (zz_nz 1))))))))))))))))))))))))])), (nst, .inl (kst, 9, .inr (.inr (.inr (.inr sf))))), (q7, .inr (4, [.int 0, .int 0, .int 0, .int 0]))]) (TC := [(kst, .object RX4)]) (WR := [(x, .inr (6, [.ref tx0, .ref nb, .ref tb, .ref ib, .ref ah, .ref tp, .ref rd, .ref sh, .ref sl, .ref wt, .int 0, .int 0, .int 0, .int 0, .int 0])), (q8, .inr (4, [.int 0, .int 0, .int 0, .int 0])), (q0, .inr (4, [.int y9, .int y14, .int 100, .int y19])), (q1, .inr (4, [.int y28, .int y33, .int 100, .int y38])), (q2, .inr (4, [.int y47, .int y52, .int 100, .int y57])), (q3, .inr (4, [.int y66, .int y71, .int 100, .int y76])), (q4, .inr (4, [.int y85, .int y90, .int 100, .int y95])), (q5, .inr (4, [.int y104, .int y109, .int 100, .int y114])), (q6, .inr (4, [.int y123, .int y128, .int 100, .int y133]))]) (TR := []) (k := 0) (n := 0) Z192 [11, 9, 1] [0, 2, 3, 4, 5, 6, 7, 8, 10] [0] [] rfl rfl (by decide +kernel) (by decide +kernel) (by decide +kernel) rfl rfl (fun Zc => va_runV (As := [.int y142, .int y147, .int y152]) (rest := []) X (c_open l D nb ntx nst nct 7 0 3 0 0 10 0 0 0 0 (zz_nz (zz_nz (zz_nz (zz_nz (zz_nz (zz_nz (zz_nz (zz_nz (zz_nz (zz_nz (zz_nz (zz_nz (zz_nz (zz_nz (zz_nz (zz_nz (zz_nz (zz_nz (zz_nz (zz_nz (zz_nz (zz_nz (zz_nz (zz_nz 1)))))))))))))))))))))))) kst sf q7 0 0 0 0 y142 y147 y152 (by decide) (zz_in 7 9 rfl) asf_7 H189.size) (cwV 3 hts gX6_deal_X0_open rfl rfl rfl ⟨rfl, zh_X0_open⟩ ⟨Nat.le_of_ble_eq_true rfl, Nat.le_of_ble_eq_true rfl⟩) (zz_pV (ci := 0) Zc 0 rfl rfl) rfl rfl hl194.1 rfl (lv_room (Nat.le_of_ble_eq_true rfl)) dX6_deal_81 ⟨Nat.le_of_ble_eq_true rfl, Nat.le_of_ble_eq_true rfl⟩) rfl rfl (fun r156 u154 H195 locs196 hw155 Z197 => ?_)
                    clear Z192
                    have hw155 : r156 = 7 := hw155.trans (by decide)
                    subst r156
                    have Z198 : zz_S D A s [(x, .inr (6, [.ref tx0, .ref nb, .ref tb, .ref ib, .ref ah, .ref tp, .ref rd, .ref sh, .ref sl, .ref wt, .int 0, .int 0, .int 0, .int 0, .int 0])), (q8, .inr (4, [.int 0, .int 0, .int 0, .int 0])), (q0, .inr (4, [.int y9, .int y14, .int 100, .int y19])), (q1, .inr (4, [.int y28, .int y33, .int 100, .int y38])), (q2, .inr (4, [.int y47, .int y52, .int 100, .int y57])), (q3, .inr (4, [.int y66, .int y71, .int 100, .int y76])), (q4, .inr (4, [.int y85, .int y90, .int 100, .int y95])), (q5, .inr (4, [.int y104, .int y109, .int 100, .int y114])), (q6, .inr (4, [.int y123, .int y128, .int 100, .int y133])), (nb, .inr (0, [.ref ntx, .ref nst, .ref nct, .int 8, .int 0, .int 3, .int 0, .int 0, .int 10, .int 0, .int 0, .int 0, .int 0, .int (zz_nz (zz_nz (zz_nz (zz_nz (zz_nz (zz_nz (zz_nz (zz_nz (zz_nz (zz_nz (zz_nz (zz_nz (zz_nz (zz_nz (zz_nz (zz_nz (zz_nz (zz_nz (zz_nz (zz_nz (zz_nz (zz_nz (zz_nz (zz_nz 1))))))))))))))))))))))))])), (nst, .inl (kst, 9, .inr (.inr (.inr (.inr sf))))), (q7, .inr (4, [.int y142, .int y147, .int 100, .int y152]))] [(kst, .object RX4)] H195 locs196 := Z197
                    clear Z197
                    refine lv_pop hx hb dX6_deal_84 rfl ?_
                    refine lv_iinc (v := 8) (lv' := [(3, .int 8), (6, .int y152), (5, .int y147), (4, .int y142), (2, .int n), (0, .ref x), (1, .int n)]) hx hb dX6_deal_85 hl194 (k := 3) rfl (by decide) (by decide) rfl (fun ls199 hl200 => ?_)
                    clear hl194
                    refine lv_goto (tgt := 30) hx hb dX6_deal_88 (by decide) ?_
                    refine lv_iload_n hx hb dX6_deal_30 rfl (lv_at hl200 0 rfl) ?_
                    refine lv_iload_n hx hb dX6_deal_31 rfl (lv_at hl200 4 rfl) ?_
                    refine lv_icmp_ge (tgt := 91) hx hb dX6_deal_32 (by decide) (fun b157 => ?_) (fun b157 => ?_)
                    · refine lv_iload_n hx hb dX6_deal_91 rfl (lv_at hl200 4 rfl) ?_
                      exact zz_iret X hr hlk Z198 () (if_pos w4).symm [] [] (by decide +kernel) rfl rfl dX6_deal_92
                    · refine lv_aload_n hx hb dX6_deal_35 rfl (lv_at hl200 5 rfl) ?_
                      refine zz_get X Z198 0 rfl rfl (fun w h => List.mem_cons_of_mem _ (List.mem_append_left _ (List.mem_append_left _ (List.mem_append_right _ h)))) 1 rfl (zz_m 2 rfl) rfl dX6_deal_36 ?_
                      refine zz_ci (WC := [(nb, .inr (0, [.ref ntx, .ref nst, .ref nct, .int 8, .int 0, .int 3, .int 0, .int 0, .int 10, .int 0, .int 0, .int 0, .int 0, .int (zz_nz (zz_nz (zz_nz (zz_nz (zz_nz (zz_nz (zz_nz (zz_nz (zz_nz (zz_nz (zz_nz (zz_nz (zz_nz (zz_nz (zz_nz (zz_nz (zz_nz (zz_nz (zz_nz (zz_nz (zz_nz (zz_nz (zz_nz (zz_nz 1))))))))))))))))))))))))]))]) (TC := []) (WR := [(x, .inr (6, [.ref tx0, .ref nb, .ref tb, .ref ib, .ref ah, .ref tp, .ref rd, .ref sh, .ref sl, .ref wt, .int 0, .int 0, .int 0, .int 0, .int 0])), (q8, .inr (4, [.int 0, .int 0, .int 0, .int 0])), (q0, .inr (4, [.int y9, .int y14, .int 100, .int y19])), (q1, .inr (4, [.int y28, .int y33, .int 100, .int y38])), (q2, .inr (4, [.int y47, .int y52, .int 100, .int y57])), (q3, .inr (4, [.int y66, .int y71, .int 100, .int y76])), (q4, .inr (4, [.int y85, .int y90, .int 100, .int y95])), (q5, .inr (4, [.int y104, .int y109, .int 100, .int y114])), (q6, .inr (4, [.int y123, .int y128, .int 100, .int y133])), (nst, .inl (kst, 9, .inr (.inr (.inr (.inr sf))))), (q7, .inr (4, [.int y142, .int y147, .int 100, .int y152]))]) (TR := [(kst, .object RX4)]) (k := 0) (n := 0) Z198 [9] [0, 1, 2, 3, 4, 5, 6, 7, 8, 10, 11] [] [0] rfl rfl (by decide +kernel) (by decide +kernel) (by decide +kernel) rfl rfl (fun Zc => va_runV (As := []) (rest := []) X (c_draw l D nb ntx nst nct 8 0 3 0 0 10 0 0 0 0 (zz_nz (zz_nz (zz_nz (zz_nz (zz_nz (zz_nz (zz_nz (zz_nz (zz_nz (zz_nz (zz_nz (zz_nz (zz_nz (zz_nz (zz_nz (zz_nz (zz_nz (zz_nz (zz_nz (zz_nz (zz_nz (zz_nz (zz_nz (zz_nz 1)))))))))))))))))))))))) H195.size) (cwV 0 hts gX6_deal_X0_draw rfl rfl rfl ⟨rfl, zh_X0_draw⟩ ⟨Nat.le_of_ble_eq_true rfl, Nat.le_of_ble_eq_true rfl⟩) (zz_pV (ci := 0) Zc 0 rfl rfl) rfl rfl hl200.1 rfl (lv_room (Nat.le_of_ble_eq_true rfl)) dX6_deal_39 ⟨Nat.le_of_ble_eq_true rfl, Nat.le_of_ble_eq_true rfl⟩) rfl rfl (fun r160 u158 H201 locs202 hw159 Z203 => ?_)
                      clear Z198
                      subst r160
                      have Z204 : zz_S D A s [(x, .inr (6, [.ref tx0, .ref nb, .ref tb, .ref ib, .ref ah, .ref tp, .ref rd, .ref sh, .ref sl, .ref wt, .int 0, .int 0, .int 0, .int 0, .int 0])), (q8, .inr (4, [.int 0, .int 0, .int 0, .int 0])), (q0, .inr (4, [.int y9, .int y14, .int 100, .int y19])), (q1, .inr (4, [.int y28, .int y33, .int 100, .int y38])), (q2, .inr (4, [.int y47, .int y52, .int 100, .int y57])), (q3, .inr (4, [.int y66, .int y71, .int 100, .int y76])), (q4, .inr (4, [.int y85, .int y90, .int 100, .int y95])), (q5, .inr (4, [.int y104, .int y109, .int 100, .int y114])), (q6, .inr (4, [.int y123, .int y128, .int 100, .int y133])), (nst, .inl (kst, 9, .inr (.inr (.inr (.inr sf))))), (q7, .inr (4, [.int y142, .int y147, .int 100, .int y152])), (nb, .inr (0, [.ref ntx, .ref nst, .ref nct, .int 8, .int 0, .int 3, .int 0, .int 0, .int 10, .int 0, .int 0, .int 0, .int 0, .int (zz_nz (zz_nz (zz_nz (zz_nz (zz_nz (zz_nz (zz_nz (zz_nz (zz_nz (zz_nz (zz_nz (zz_nz (zz_nz (zz_nz (zz_nz (zz_nz (zz_nz (zz_nz (zz_nz (zz_nz (zz_nz (zz_nz (zz_nz (zz_nz (zz_nz 1)))))))))))))))))))))))))]))] [(kst, .object RX4)] H201 locs202 := Z203
                      clear Z203
                      refine lv_bipush (v := 6) hx hb dX6_deal_42 (by decide) ?_
                      refine lv_irem hx hb dX6_deal_44 (by decide) ?_
                      refine lv_topi (fun y161 ey162 => ?_)
                      refine lv_istore (lv' := [(4, .int y161), (3, .int 8), (6, .int y152), (5, .int y147), (2, .int n), (0, .ref x), (1, .int n)]) hx hb dX6_deal_45 hl200 (by decide) rfl (fun ls205 hl206 => ?_)
                      clear hl200
                      refine lv_aload_n hx hb dX6_deal_47 rfl (lv_at hl206 5 rfl) ?_
                      refine zz_get X Z204 0 rfl rfl (fun w h => List.mem_cons_of_mem _ (List.mem_append_left _ (List.mem_append_left _ (List.mem_append_right _ h)))) 1 rfl (zz_m 2 rfl) rfl dX6_deal_48 ?_
                      refine zz_ci (WC := [(nb, .inr (0, [.ref ntx, .ref nst, .ref nct, .int 8, .int 0, .int 3, .int 0, .int 0, .int 10, .int 0, .int 0, .int 0, .int 0, .int (zz_nz (zz_nz (zz_nz (zz_nz (zz_nz (zz_nz (zz_nz (zz_nz (zz_nz (zz_nz (zz_nz (zz_nz (zz_nz (zz_nz (zz_nz (zz_nz (zz_nz (zz_nz (zz_nz (zz_nz (zz_nz (zz_nz (zz_nz (zz_nz (zz_nz 1)))))))))))))))))))))))))]))]) (TC := []) (WR := [(x, .inr (6, [.ref tx0, .ref nb, .ref tb, .ref ib, .ref ah, .ref tp, .ref rd, .ref sh, .ref sl, .ref wt, .int 0, .int 0, .int 0, .int 0, .int 0])), (q8, .inr (4, [.int 0, .int 0, .int 0, .int 0])), (q0, .inr (4, [.int y9, .int y14, .int 100, .int y19])), (q1, .inr (4, [.int y28, .int y33, .int 100, .int y38])), (q2, .inr (4, [.int y47, .int y52, .int 100, .int y57])), (q3, .inr (4, [.int y66, .int y71, .int 100, .int y76])), (q4, .inr (4, [.int y85, .int y90, .int 100, .int y95])), (q5, .inr (4, [.int y104, .int y109, .int 100, .int y114])), (q6, .inr (4, [.int y123, .int y128, .int 100, .int y133])), (nst, .inl (kst, 9, .inr (.inr (.inr (.inr sf))))), (q7, .inr (4, [.int y142, .int y147, .int 100, .int y152]))]) (TR := [(kst, .object RX4)]) (k := 0) (n := 0) Z204 [11] [0, 1, 2, 3, 4, 5, 6, 7, 8, 9, 10] [] [0] rfl rfl (by decide +kernel) (by decide +kernel) (by decide +kernel) rfl rfl (fun Zc => va_runV (As := []) (rest := []) X (c_draw l D nb ntx nst nct 8 0 3 0 0 10 0 0 0 0 (zz_nz (zz_nz (zz_nz (zz_nz (zz_nz (zz_nz (zz_nz (zz_nz (zz_nz (zz_nz (zz_nz (zz_nz (zz_nz (zz_nz (zz_nz (zz_nz (zz_nz (zz_nz (zz_nz (zz_nz (zz_nz (zz_nz (zz_nz (zz_nz (zz_nz 1))))))))))))))))))))))))) H201.size) (cwV 0 hts gX6_deal_X0_draw rfl rfl rfl ⟨rfl, zh_X0_draw⟩ ⟨Nat.le_of_ble_eq_true rfl, Nat.le_of_ble_eq_true rfl⟩) (zz_pV (ci := 0) Zc 0 rfl rfl) rfl rfl hl206.1 rfl (lv_room (Nat.le_of_ble_eq_true rfl)) dX6_deal_51 ⟨Nat.le_of_ble_eq_true rfl, Nat.le_of_ble_eq_true rfl⟩) rfl rfl (fun r165 u163 H207 locs208 hw164 Z209 => ?_)
                      clear Z204
                      subst r165
                      have Z210 : zz_S D A s [(x, .inr (6, [.ref tx0, .ref nb, .ref tb, .ref ib, .ref ah, .ref tp, .ref rd, .ref sh, .ref sl, .ref wt, .int 0, .int 0, .int 0, .int 0, .int 0])), (q8, .inr (4, [.int 0, .int 0, .int 0, .int 0])), (q0, .inr (4, [.int y9, .int y14, .int 100, .int y19])), (q1, .inr (4, [.int y28, .int y33, .int 100, .int y38])), (q2, .inr (4, [.int y47, .int y52, .int 100, .int y57])), (q3, .inr (4, [.int y66, .int y71, .int 100, .int y76])), (q4, .inr (4, [.int y85, .int y90, .int 100, .int y95])), (q5, .inr (4, [.int y104, .int y109, .int 100, .int y114])), (q6, .inr (4, [.int y123, .int y128, .int 100, .int y133])), (nst, .inl (kst, 9, .inr (.inr (.inr (.inr sf))))), (q7, .inr (4, [.int y142, .int y147, .int 100, .int y152])), (nb, .inr (0, [.ref ntx, .ref nst, .ref nct, .int 8, .int 0, .int 3, .int 0, .int 0, .int 10, .int 0, .int 0, .int 0, .int 0, .int (zz_nz (zz_nz (zz_nz (zz_nz (zz_nz (zz_nz (zz_nz (zz_nz (zz_nz (zz_nz (zz_nz (zz_nz (zz_nz (zz_nz (zz_nz (zz_nz (zz_nz (zz_nz (zz_nz (zz_nz (zz_nz (zz_nz (zz_nz (zz_nz (zz_nz (zz_nz 1))))))))))))))))))))))))))]))] [(kst, .object RX4)] H207 locs208 := Z209
                      clear Z209
                      refine lv_bipush (v := 12) hx hb dX6_deal_54 (by decide) ?_
                      refine lv_irem hx hb dX6_deal_56 (by decide) ?_
                      refine lv_topi (fun y166 ey167 => ?_)
                      refine lv_istore (lv' := [(5, .int y166), (4, .int y161), (3, .int 8), (6, .int y152), (2, .int n), (0, .ref x), (1, .int n)]) hx hb dX6_deal_57 hl206 (by decide) rfl (fun ls211 hl212 => ?_)
                      clear hl206
                      refine lv_aload_n hx hb dX6_deal_59 rfl (lv_at hl212 5 rfl) ?_
                      refine zz_get X Z210 0 rfl rfl (fun w h => List.mem_cons_of_mem _ (List.mem_append_left _ (List.mem_append_left _ (List.mem_append_right _ h)))) 1 rfl (zz_m 2 rfl) rfl dX6_deal_60 ?_
                      refine zz_ci (WC := [(nb, .inr (0, [.ref ntx, .ref nst, .ref nct, .int 8, .int 0, .int 3, .int 0, .int 0, .int 10, .int 0, .int 0, .int 0, .int 0, .int (zz_nz (zz_nz (zz_nz (zz_nz (zz_nz (zz_nz (zz_nz (zz_nz (zz_nz (zz_nz (zz_nz (zz_nz (zz_nz (zz_nz (zz_nz (zz_nz (zz_nz (zz_nz (zz_nz (zz_nz (zz_nz (zz_nz (zz_nz (zz_nz (zz_nz (zz_nz 1))))))))))))))))))))))))))]))]) (TC := []) (WR := [(x, .inr (6, [.ref tx0, .ref nb, .ref tb, .ref ib, .ref ah, .ref tp, .ref rd, .ref sh, .ref sl, .ref wt, .int 0, .int 0, .int 0, .int 0, .int 0])), (q8, .inr (4, [.int 0, .int 0, .int 0, .int 0])), (q0, .inr (4, [.int y9, .int y14, .int 100, .int y19])), (q1, .inr (4, [.int y28, .int y33, .int 100, .int y38])), (q2, .inr (4, [.int y47, .int y52, .int 100, .int y57])), (q3, .inr (4, [.int y66, .int y71, .int 100, .int y76])), (q4, .inr (4, [.int y85, .int y90, .int 100, .int y95])), (q5, .inr (4, [.int y104, .int y109, .int 100, .int y114])), (q6, .inr (4, [.int y123, .int y128, .int 100, .int y133])), (nst, .inl (kst, 9, .inr (.inr (.inr (.inr sf))))), (q7, .inr (4, [.int y142, .int y147, .int 100, .int y152]))]) (TR := [(kst, .object RX4)]) (k := 0) (n := 0) Z210 [11] [0, 1, 2, 3, 4, 5, 6, 7, 8, 9, 10] [] [0] rfl rfl (by decide +kernel) (by decide +kernel) (by decide +kernel) rfl rfl (fun Zc => va_runV (As := []) (rest := []) X (c_draw l D nb ntx nst nct 8 0 3 0 0 10 0 0 0 0 (zz_nz (zz_nz (zz_nz (zz_nz (zz_nz (zz_nz (zz_nz (zz_nz (zz_nz (zz_nz (zz_nz (zz_nz (zz_nz (zz_nz (zz_nz (zz_nz (zz_nz (zz_nz (zz_nz (zz_nz (zz_nz (zz_nz (zz_nz (zz_nz (zz_nz (zz_nz 1)))))))))))))))))))))))))) H207.size) (cwV 0 hts gX6_deal_X0_draw rfl rfl rfl ⟨rfl, zh_X0_draw⟩ ⟨Nat.le_of_ble_eq_true rfl, Nat.le_of_ble_eq_true rfl⟩) (zz_pV (ci := 0) Zc 0 rfl rfl) rfl rfl hl212.1 rfl (lv_room (Nat.le_of_ble_eq_true rfl)) dX6_deal_63 ⟨Nat.le_of_ble_eq_true rfl, Nat.le_of_ble_eq_true rfl⟩) rfl rfl (fun r170 u168 H213 locs214 hw169 Z215 => ?_)
                      clear Z210
                      subst r170
                      have Z216 : zz_S D A s [(x, .inr (6, [.ref tx0, .ref nb, .ref tb, .ref ib, .ref ah, .ref tp, .ref rd, .ref sh, .ref sl, .ref wt, .int 0, .int 0, .int 0, .int 0, .int 0])), (q8, .inr (4, [.int 0, .int 0, .int 0, .int 0])), (q0, .inr (4, [.int y9, .int y14, .int 100, .int y19])), (q1, .inr (4, [.int y28, .int y33, .int 100, .int y38])), (q2, .inr (4, [.int y47, .int y52, .int 100, .int y57])), (q3, .inr (4, [.int y66, .int y71, .int 100, .int y76])), (q4, .inr (4, [.int y85, .int y90, .int 100, .int y95])), (q5, .inr (4, [.int y104, .int y109, .int 100, .int y114])), (q6, .inr (4, [.int y123, .int y128, .int 100, .int y133])), (nst, .inl (kst, 9, .inr (.inr (.inr (.inr sf))))), (q7, .inr (4, [.int y142, .int y147, .int 100, .int y152])), (nb, .inr (0, [.ref ntx, .ref nst, .ref nct, .int 8, .int 0, .int 3, .int 0, .int 0, .int 10, .int 0, .int 0, .int 0, .int 0, .int (zz_nz (zz_nz (zz_nz (zz_nz (zz_nz (zz_nz (zz_nz (zz_nz (zz_nz (zz_nz (zz_nz (zz_nz (zz_nz (zz_nz (zz_nz (zz_nz (zz_nz (zz_nz (zz_nz (zz_nz (zz_nz (zz_nz (zz_nz (zz_nz (zz_nz (zz_nz (zz_nz 1)))))))))))))))))))))))))))]))] [(kst, .object RX4)] H213 locs214 := Z215
                      clear Z215
                      refine lv_bipush (v := 40) hx hb dX6_deal_66 (by decide) ?_
                      refine lv_irem hx hb dX6_deal_68 (by decide) ?_
                      refine lv_topi (fun y171 ey172 => ?_)
                      refine lv_istore (lv' := [(6, .int y171), (5, .int y166), (4, .int y161), (3, .int 8), (2, .int n), (0, .ref x), (1, .int n)]) hx hb dX6_deal_69 hl212 (by decide) rfl (fun ls217 hl218 => ?_)
                      clear hl212
                      refine lv_aload_n hx hb dX6_deal_71 rfl (lv_at hl218 5 rfl) ?_
                      refine zz_get X Z216 0 rfl rfl (fun w h => List.mem_cons_of_mem _ (List.mem_append_left _ (List.mem_append_left _ (List.mem_append_right _ h)))) 1 rfl (zz_m 2 rfl) rfl dX6_deal_72 ?_
                      refine lv_iload hx hb dX6_deal_75 (lv_at hl218 2 rfl) ?_
                      refine lv_iload hx hb dX6_deal_77 (lv_at hl218 1 rfl) ?_
                      refine lv_iload hx hb dX6_deal_79 (lv_at hl218 0 rfl) ?_
                      refine zz_ci (WC := [(nb, .inr (0, [.ref ntx, .ref nst, .ref nct, .int 8, .int 0, .int 3, .int 0, .int 0, .int 10, .int 0, .int 0, .int 0, .int 0, .int (zz_nz (zz_nz (zz_nz (zz_nz (zz_nz (zz_nz (zz_nz (zz_nz (zz_nz (zz_nz (zz_nz (zz_nz (zz_nz (zz_nz (zz_nz (zz_nz (zz_nz (zz_nz (zz_nz (zz_nz (zz_nz (zz_nz (zz_nz (zz_nz (zz_nz (zz_nz (zz_nz 1)))))))))))))))))))))))))))])), (nst, .inl (kst, 9, .inr (.inr (.inr (.inr sf))))), (q8, .inr (4, [.int 0, .int 0, .int 0, .int 0]))]) (TC := [(kst, .object RX4)]) (WR := [(x, .inr (6, [.ref tx0, .ref nb, .ref tb, .ref ib, .ref ah, .ref tp, .ref rd, .ref sh, .ref sl, .ref wt, .int 0, .int 0, .int 0, .int 0, .int 0])), (q0, .inr (4, [.int y9, .int y14, .int 100, .int y19])), (q1, .inr (4, [.int y28, .int y33, .int 100, .int y38])), (q2, .inr (4, [.int y47, .int y52, .int 100, .int y57])), (q3, .inr (4, [.int y66, .int y71, .int 100, .int y76])), (q4, .inr (4, [.int y85, .int y90, .int 100, .int y95])), (q5, .inr (4, [.int y104, .int y109, .int 100, .int y114])), (q6, .inr (4, [.int y123, .int y128, .int 100, .int y133])), (q7, .inr (4, [.int y142, .int y147, .int 100, .int y152]))]) (TR := []) (k := 0) (n := 0) Z216 [11, 9, 1] [0, 2, 3, 4, 5, 6, 7, 8, 10] [0] [] rfl rfl (by decide +kernel) (by decide +kernel) (by decide +kernel) rfl rfl (fun Zc => va_runV (As := [.int y161, .int y166, .int y171]) (rest := []) X (c_open l D nb ntx nst nct 8 0 3 0 0 10 0 0 0 0 (zz_nz (zz_nz (zz_nz (zz_nz (zz_nz (zz_nz (zz_nz (zz_nz (zz_nz (zz_nz (zz_nz (zz_nz (zz_nz (zz_nz (zz_nz (zz_nz (zz_nz (zz_nz (zz_nz (zz_nz (zz_nz (zz_nz (zz_nz (zz_nz (zz_nz (zz_nz (zz_nz 1))))))))))))))))))))))))))) kst sf q8 0 0 0 0 y161 y166 y171 (by decide) (zz_in 8 9 rfl) asf_8 H213.size) (cwV 3 hts gX6_deal_X0_open rfl rfl rfl ⟨rfl, zh_X0_open⟩ ⟨Nat.le_of_ble_eq_true rfl, Nat.le_of_ble_eq_true rfl⟩) (zz_pV (ci := 0) Zc 0 rfl rfl) rfl rfl hl218.1 rfl (lv_room (Nat.le_of_ble_eq_true rfl)) dX6_deal_81 ⟨Nat.le_of_ble_eq_true rfl, Nat.le_of_ble_eq_true rfl⟩) rfl rfl (fun r175 u173 H219 locs220 hw174 Z221 => ?_)
                      clear Z216
                      have hw174 : r175 = 8 := hw174.trans (by decide)
                      subst r175
                      have Z222 : zz_S D A s [(x, .inr (6, [.ref tx0, .ref nb, .ref tb, .ref ib, .ref ah, .ref tp, .ref rd, .ref sh, .ref sl, .ref wt, .int 0, .int 0, .int 0, .int 0, .int 0])), (q0, .inr (4, [.int y9, .int y14, .int 100, .int y19])), (q1, .inr (4, [.int y28, .int y33, .int 100, .int y38])), (q2, .inr (4, [.int y47, .int y52, .int 100, .int y57])), (q3, .inr (4, [.int y66, .int y71, .int 100, .int y76])), (q4, .inr (4, [.int y85, .int y90, .int 100, .int y95])), (q5, .inr (4, [.int y104, .int y109, .int 100, .int y114])), (q6, .inr (4, [.int y123, .int y128, .int 100, .int y133])), (q7, .inr (4, [.int y142, .int y147, .int 100, .int y152])), (nb, .inr (0, [.ref ntx, .ref nst, .ref nct, .int 9, .int 0, .int 3, .int 0, .int 0, .int 10, .int 0, .int 0, .int 0, .int 0, .int (zz_nz (zz_nz (zz_nz (zz_nz (zz_nz (zz_nz (zz_nz (zz_nz (zz_nz (zz_nz (zz_nz (zz_nz (zz_nz (zz_nz (zz_nz (zz_nz (zz_nz (zz_nz (zz_nz (zz_nz (zz_nz (zz_nz (zz_nz (zz_nz (zz_nz (zz_nz (zz_nz 1)))))))))))))))))))))))))))])), (nst, .inl (kst, 9, .inr (.inr (.inr (.inr sf))))), (q8, .inr (4, [.int y161, .int y166, .int 100, .int y171]))] [(kst, .object RX4)] H219 locs220 := Z221
                      clear Z221
                      refine lv_pop hx hb dX6_deal_84 rfl ?_
                      refine lv_iinc (v := 9) (lv' := [(3, .int 9), (6, .int y171), (5, .int y166), (4, .int y161), (2, .int n), (0, .ref x), (1, .int n)]) hx hb dX6_deal_85 hl218 (k := 3) rfl (by decide) (by decide) rfl (fun ls223 hl224 => ?_)
                      clear hl218
                      refine lv_goto (tgt := 30) hx hb dX6_deal_88 (by decide) ?_
                      refine lv_iload_n hx hb dX6_deal_30 rfl (lv_at hl224 0 rfl) ?_
                      refine lv_iload_n hx hb dX6_deal_31 rfl (lv_at hl224 4 rfl) ?_
                      refine lv_icmp_ge (tgt := 91) hx hb dX6_deal_32 (by decide) (fun _ => ?_) (fun h => absurd w4.2 h)
                      refine lv_iload_n hx hb dX6_deal_91 rfl (lv_at hl224 4 rfl) ?_
                      exact zz_iret X hr hlk Z222 () (if_pos w4).symm [] [] (by decide +kernel) rfl rfl dX6_deal_92
  · refine zz_v (v := 0) (zz_wiF w4) ?_
    refine lv_if_ne (tgt := 13) hx hb dX6_deal_7 (by decide) (fun h => absurd (by decide) h) (fun _ => ?_)
    refine lv_ldc (v := (-1000000001)) hx hb hown (hts _ (zz_m 1 rfl)) dX6_deal_10 ?_
    exact zz_iret X hr hlk Z4 () (if_neg w4).symm [] [] (by decide +kernel) rfl rfl dX6_deal_12

set_option maxHeartbeats 4000000 in
set_option maxRecDepth 100000 in
theorem c6_hours (l : Launch) (D : va_G) (x : Nat) (tx0 : Nat) (nb : Nat) (tb : Nat) (ib : Nat) (ah : Nat) (tp : Nat) (rd : Nat) (sh : Nat) (sl : Nat) (wt : Nat) (ntx : Nat) (nst : Nat) (nct : Nat) (n : Int32)  : zz_MI l yX6_hours wsX6_hours 4 91 0 0 D [.ref x, .int n] [(x, .inr (6, [.ref tx0, .ref nb, .ref tb, .ref ib, .ref ah, .ref tp, .ref rd, .ref sh, .ref sl, .ref wt, .int 0, .int 0, .int 0, .int 0, .int 0])), (nb, .inr (0, [.ref ntx, .ref nst, .ref nct, .int 0, .int 0, .int 3, .int 0, .int 0, .int 10, .int 0, .int 0, .int 0, .int 0, .int 1]))] [] (fun (r : Int32) (u : Unit) => r = sp_hours n) (fun (u : Unit) => []) (fun (u : Unit) => []) := by
  intro sz
  refine Met.ofW (cc := cX6_hours) (maxL := 5) (ret := (some .int)) (by decide) rfl ?_
  intro p e s m args below meth c s₁ B hml hv
  obtain ⟨rfl, hC⟩ := hv
  have hx := B.exec
  have hb := B.bytes
  have hr := B.returns
  have hts := atoms_spec (ws := wsX6_hours) B.pre
  have hown : s.vm.findClass RX6 = some m.cls := findClass_of_methodNamed B.named
  have hlk := B.notSynchronized
  have X : CallFix p m c cX6_hours 5 s _ wsX6_hours RX6 := ⟨hx, hb, hml, hown, hts⟩
  have Z := zz_enter hC
  generalize va_A [(x, .inr (6, [.ref tx0, .ref nb, .ref tb, .ref ib, .ref ah, .ref tp, .ref rd, .ref sh, .ref sl, .ref wt, .int 0, .int 0, .int 0, .int 0, .int 0])), (nb, .inr (0, [.ref ntx, .ref nst, .ref nct, .int 0, .int 0, .int 3, .int 0, .int 0, .int 10, .int 0, .int 0, .int 0, .int 0, .int 1]))] sz = A at Z ⊢
  have hl := lv_entry ([.ref x, .int n]) (n := 5) (Nat.le_of_ble_eq_true rfl)
  rw [lg_entry_eq]
  generalize (lg_sl ([.ref x, .int n]) ++ List.replicate (5 - (lg_sl ([.ref x, .int n])).length) Slot.unset).toArray = ls at hl ⊢
  have hl : lv_has ls 5 [(0, .ref x), (1, .int n)] := hl
  refine lv_iload_n hx hb dX6_hours_0 rfl (lv_at hl 1 rfl) ?_
  refine lv_iconst (v := 1) hx hb dX6_hours_1 (by decide) ?_
  refine lv_bipush (v := 100) hx hb dX6_hours_2 (by decide) ?_
  refine zz_ci (WC := []) (TC := []) (WR := [(x, .inr (6, [.ref tx0, .ref nb, .ref tb, .ref ib, .ref ah, .ref tp, .ref rd, .ref sh, .ref sl, .ref wt, .int 0, .int 0, .int 0, .int 0, .int 0])), (nb, .inr (0, [.ref ntx, .ref nst, .ref nct, .int 0, .int 0, .int 3, .int 0, .int 0, .int 10, .int 0, .int 0, .int 0, .int 0, .int 1]))]) (TR := []) (k := 0) (n := 0) Z [] [0, 1] [] [] rfl rfl (by decide +kernel) (by decide +kernel) (by decide +kernel) rfl rfl (fun Zc => va_runS (As := [.int n, .int 1, .int 100]) (rest := []) X (c_within l D n 1 100 s.heap.size) (va_cwS 3 hts gX6_hours_X6_within rfl rfl rfl zh_X6_within ⟨Nat.le_of_ble_eq_true rfl, Nat.le_of_ble_eq_true rfl⟩) (zz_pS Zc) rfl rfl hl.1 rfl (lv_room (Nat.le_of_ble_eq_true rfl)) dX6_hours_4 ⟨Nat.le_of_ble_eq_true rfl, Nat.le_of_ble_eq_true rfl⟩) rfl rfl (fun r3 u1 H1 locs2 hw2 Z3 => ?_)
  clear Z
  subst r3
  have Z4 : zz_S D A s [(x, .inr (6, [.ref tx0, .ref nb, .ref tb, .ref ib, .ref ah, .ref tp, .ref rd, .ref sh, .ref sl, .ref wt, .int 0, .int 0, .int 0, .int 0, .int 0])), (nb, .inr (0, [.ref ntx, .ref nst, .ref nct, .int 0, .int 0, .int 3, .int 0, .int 0, .int 10, .int 0, .int 0, .int 0, .int 0, .int 1]))] [] H1 locs2 := Z3
  clear Z3
  by_cases w4 : 1 ≤ n ∧ n ≤ 100
  · obtain ⟨N, ⟨hN1, hN⟩, eN⟩ := zz_rng1 100 w4 (by decide)
    subst eN
    refine zz_v (v := 1) (zz_wiT w4) ?_
    refine lv_if_ne (tgt := 13) hx hb dX6_hours_7 (by decide) (fun _ => ?_) (fun h => absurd h (by decide))
    refine lv_aload_n hx hb dX6_hours_13 rfl (lv_at hl 0 rfl) ?_
    refine zz_get X Z4 0 rfl rfl (fun w h => List.mem_cons_of_mem _ (List.mem_append_left _ (List.mem_append_left _ (List.mem_append_left _ (List.mem_append_right _ h))))) 1 rfl (zz_m 2 rfl) rfl dX6_hours_14 ?_
    refine zz_get X Z4 1 rfl rfl (fun w h => List.mem_cons_of_mem _ (List.mem_append_left _ (List.mem_append_left _ (List.mem_append_right _ h)))) 11 rfl (zz_m 3 rfl) rfl dX6_hours_17 ?_
    refine lv_istore_n (lv' := [(2, .int 0), (0, .ref x), (1, .int (nI N))]) hx hb dX6_hours_20 rfl hl (by decide) rfl (fun ls5 hl6 => ?_)
    clear hl
    refine lv_iload_n hx hb dX6_hours_21 rfl (lv_at hl6 2 rfl) ?_
    refine lv_sipush (v := 9999) hx hb dX6_hours_22 (by decide) ?_
    refine lv_aload_n hx hb dX6_hours_25 rfl (lv_at hl6 1 rfl) ?_
    refine zz_get X Z4 0 rfl rfl (fun w h => List.mem_cons_of_mem _ (List.mem_append_left _ (List.mem_append_left _ (List.mem_append_left _ (List.mem_append_right _ h))))) 1 rfl (zz_m 2 rfl) rfl dX6_hours_26 ?_
    refine zz_get X Z4 1 rfl rfl (fun w h => List.mem_cons_of_mem _ (List.mem_append_left _ (List.mem_append_left _ (List.mem_append_right _ h)))) 7 rfl (zz_m 4 rfl) rfl dX6_hours_29 ?_
    refine lv_isub hx hb dX6_hours_32 ?_
    refine zz_v (v := 9999) (by decide) ?_
    refine va_mmin hx hb (by rw [hml]; exact hl6.1.symm) hown (hts _ (zz_m 5 rfl)) (hts _ (zz_m 6 rfl)) (hts _ (zz_m 7 rfl)) (hts _ (zz_m 8 rfl)) (Nat.le_of_ble_eq_true rfl) (Nat.le_of_ble_eq_true rfl) (Nat.le_of_ble_eq_true rfl) (Nat.le_of_ble_eq_true rfl) dX6_hours_33 ?_
    refine zz_v (v := nI N) (if_neg (nI_nlt (a := 9999) (b := N) (by omega) (by omega))) ?_
    refine lv_istore_n (lv' := [(3, .int (nI N)), (2, .int 0), (0, .ref x), (1, .int (nI N))]) hx hb dX6_hours_36 rfl hl6 (by decide) rfl (fun ls7 hl8 => ?_)
    clear hl6
    refine lv_iconst (v := 0) hx hb dX6_hours_37 (by decide) ?_
    refine lv_istore (lv' := [(4, .int 0), (3, .int (nI N)), (2, .int 0), (0, .ref x), (1, .int (nI N))]) hx hb dX6_hours_38 hl8 (by decide) rfl (fun ls9 hl10 => ?_)
    clear hl8
    have loop : ∀ (k i : Nat) (v1 : Int32) (v2 : Int32) (v3 : Int32) (v4 : Int32), i + k = N → True → ∀ (Hq : Heap) (Lq : List Loc) (lq : Array Slot), zz_S D A s [(x, .inr (6, [.ref tx0, .ref nb, .ref tb, .ref ib, .ref ah, .ref tp, .ref rd, .ref sh, .ref sl, .ref wt, .int 0, .int 0, .int 0, .int 0, .int 0])), (nb, .inr (0, [.ref ntx, .ref nst, .ref nct, .int 0, .int 0, .int 3, .int v1, .int v4, .int 10, .int 0, .int 0, .int 0, .int v2, .int v3]))] [] Hq Lq → lv_has lq 5 [(4, .int (nI i)), (3, .int (nI N)), (2, .int 0), (0, .ref x), (1, .int (nI N))] → W p l e (headSpec wsX6_hours { frames := 4, cells := 0, slots := 0, locals := 91 }).room s m (List.toArray [.ref x, .int (nI N)]) below meth c Hq Lq 0 0 (MQ below (va_Qi (fun (r : Int32) (u : Unit) => r = sp_hours (nI N)) (fun u t => zz_B D A ((fun (u : Unit) => []) u) ((fun (u : Unit) => []) u) t) A) (List.toArray [.ref x, .int (nI N)]) s 0 0 A) (F0 m 40 lq []) := by
      intro k
      induction k with
      | zero =>
          intro i v1 v2 v3 v4 hik hinv H11 locs12 ls13 Z14 hl15
          refine lv_iload hx hb dX6_hours_40 (lv_at hl15 0 rfl) ?_
          refine lv_iload_n hx hb dX6_hours_42 rfl (lv_at hl15 1 rfl) ?_
          refine lv_icmp_ge (tgt := 66) hx hb dX6_hours_43 (by decide) (fun _ => ?_) (fun h => absurd (nI_le (a := N) (b := i) (by omega) (by omega)) h)
          refine lv_aload_n hx hb dX6_hours_66 rfl (lv_at hl15 3 rfl) ?_
          refine zz_get X Z14 0 rfl rfl (fun w h => List.mem_cons_of_mem _ (List.mem_append_left _ (List.mem_append_left _ (List.mem_append_left _ (List.mem_append_right _ h))))) 1 rfl (zz_m 2 rfl) rfl dX6_hours_67 ?_
          refine zz_get X Z14 1 rfl rfl (fun w h => List.mem_cons_of_mem _ (List.mem_append_left _ (List.mem_append_left _ (List.mem_append_right _ h)))) 11 rfl (zz_m 3 rfl) rfl dX6_hours_70 ?_
          refine lv_iload_n hx hb dX6_hours_73 rfl (lv_at hl15 2 rfl) ?_
          refine lv_isub hx hb dX6_hours_74 ?_
          refine zz_v (v := 0) (by decide) ?_
          exact zz_iret X hr hlk Z14 () (if_pos w4).symm [] [] (by decide +kernel) rfl rfl dX6_hours_75
      | succ k ih =>
          intro i v1 v2 v3 v4 hik hinv H16 locs17 ls18 Z19 hl20
          refine lv_iload hx hb dX6_hours_40 (lv_at hl20 0 rfl) ?_
          refine lv_iload_n hx hb dX6_hours_42 rfl (lv_at hl20 1 rfl) ?_
          refine lv_icmp_ge (tgt := 66) hx hb dX6_hours_43 (by decide) (fun h => absurd h (nI_ge (a := i) (b := N) (by omega) (by omega))) (fun _ => ?_)
          refine lv_aload_n hx hb dX6_hours_46 rfl (lv_at hl20 3 rfl) ?_
          refine zz_get X Z19 0 rfl rfl (fun w h => List.mem_cons_of_mem _ (List.mem_append_left _ (List.mem_append_left _ (List.mem_append_left _ (List.mem_append_right _ h))))) 1 rfl (zz_m 2 rfl) rfl dX6_hours_47 ?_
          refine lv_aload_n hx hb dX6_hours_50 rfl (lv_at hl20 3 rfl) ?_
          refine zz_get X Z19 0 rfl rfl (fun w h => List.mem_cons_of_mem _ (List.mem_append_left _ (List.mem_append_left _ (List.mem_append_left _ (List.mem_append_right _ h))))) 1 rfl (zz_m 2 rfl) rfl dX6_hours_51 ?_
          refine zz_ci (WC := [(nb, .inr (0, [.ref ntx, .ref nst, .ref nct, .int 0, .int 0, .int 3, .int v1, .int v4, .int 10, .int 0, .int 0, .int 0, .int v2, .int v3]))]) (TC := []) (WR := [(x, .inr (6, [.ref tx0, .ref nb, .ref tb, .ref ib, .ref ah, .ref tp, .ref rd, .ref sh, .ref sl, .ref wt, .int 0, .int 0, .int 0, .int 0, .int 0]))]) (TR := []) (k := 0) (n := 0) Z19 [1] [0] [] [] rfl rfl (by decide +kernel) (by decide +kernel) (by decide +kernel) rfl rfl (fun Zc => va_runV (As := []) (rest := [.ref nb]) X (c_hauling l D nb ntx nst nct 0 0 3 v1 v4 10 0 0 v2 v3 H16.size) (cwV 0 hts gX6_hours_X0_hauling rfl rfl rfl ⟨rfl, zh_X0_hauling⟩ ⟨Nat.le_of_ble_eq_true rfl, Nat.le_of_ble_eq_true rfl⟩) (zz_pV (ci := 0) Zc 0 rfl rfl) rfl rfl hl20.1 rfl (lv_room (Nat.le_of_ble_eq_true rfl)) dX6_hours_54 ⟨Nat.le_of_ble_eq_true rfl, Nat.le_of_ble_eq_true rfl⟩) rfl rfl (fun r7 u5 H21 locs22 hw6 Z23 => ?_)
          clear Z19
          have hw6 : r7 = 0 := hw6.trans (by decide)
          subst r7
          have Z24 : zz_S D A s [(x, .inr (6, [.ref tx0, .ref nb, .ref tb, .ref ib, .ref ah, .ref tp, .ref rd, .ref sh, .ref sl, .ref wt, .int 0, .int 0, .int 0, .int 0, .int 0])), (nb, .inr (0, [.ref ntx, .ref nst, .ref nct, .int 0, .int 0, .int 3, .int v1, .int v4, .int 10, .int 0, .int 0, .int 0, .int v2, .int v3]))] [] H21 locs22 := Z23
          clear Z23
          refine zz_cv (WC := [(nb, .inr (0, [.ref ntx, .ref nst, .ref nct, .int 0, .int 0, .int 3, .int v1, .int v4, .int 10, .int 0, .int 0, .int 0, .int v2, .int v3]))]) (TC := []) (WR := [(x, .inr (6, [.ref tx0, .ref nb, .ref tb, .ref ib, .ref ah, .ref tp, .ref rd, .ref sh, .ref sl, .ref wt, .int 0, .int 0, .int 0, .int 0, .int 0]))]) (TR := []) (k := 0) (n := 0) Z24 [1] [0] [] [] rfl rfl (by decide +kernel) (by decide +kernel) (by decide +kernel) rfl rfl (fun Zc => va_runV (As := [.int 0]) (rest := []) X (c_pass0 l D nb ntx nst nct 0 3 v1 v4 10 0 0 0 v2 v3 H21.size) (cwV 1 hts gX6_hours_X0_passHour rfl rfl rfl ⟨rfl, zh_X0_passHour⟩ ⟨Nat.le_of_ble_eq_true rfl, Nat.le_of_ble_eq_true rfl⟩) (zz_pV (ci := 0) Zc 0 rfl rfl) rfl rfl hl20.1 rfl (lv_room (Nat.le_of_ble_eq_true rfl)) dX6_hours_57 ⟨Nat.le_of_ble_eq_true rfl, Nat.le_of_ble_eq_true rfl⟩) rfl rfl (fun u8 H25 locs26 hw9 Z27 => ?_)
          clear Z24
          obtain ⟨f911, t912, z913⟩ := u8
          try dsimp only at hw9 Z27
          obtain ⟨rfl, rfl, rfl⟩ := hw9
          have Z28 : zz_S D A s [(x, .inr (6, [.ref tx0, .ref nb, .ref tb, .ref ib, .ref ah, .ref tp, .ref rd, .ref sh, .ref sl, .ref wt, .int 0, .int 0, .int 0, .int 0, .int 0])), (nb, .inr (0, [.ref ntx, .ref nst, .ref nct, .int 0, .int 0, .int 3, .int (zz_bF v1 v3 3 10), .int (v4 + 1), .int 10, .int 0, .int 0, .int 0, .int (zz_bT v2 v3 10), .int (zz_bZ v3 10)]))] [] H25 locs26 := Z27
          clear Z27
          refine lv_iinc (v := nI (i + 1)) (lv' := [(4, .int (nI (i + 1))), (3, .int (nI N)), (2, .int 0), (0, .ref x), (1, .int (nI N))]) hx hb dX6_hours_60 hl20 (k := 0) rfl (nI_1 i) (by decide) rfl (fun ls29 hl30 => ?_)
          clear hl20
          refine lv_goto (tgt := 40) hx hb dX6_hours_63 (by decide) ?_
          exact ih (i + 1) (zz_bF v1 v3 3 10) (zz_bT v2 v3 10) (zz_bZ v3 10) (v4 + 1) (by omega) trivial _ _ _ Z28 (lv_sub hl30 [0, 1, 2, 3, 4] rfl)
    exact loop N 0 0 0 1 0 (by omega) trivial _ _ _ Z4 hl10
  · refine zz_v (v := 0) (zz_wiF w4) ?_
    refine lv_if_ne (tgt := 13) hx hb dX6_hours_7 (by decide) (fun h => absurd (by decide) h) (fun _ => ?_)
    refine lv_ldc (v := (-1000000001)) hx hb hown (hts _ (zz_m 1 rfl)) dX6_hours_10 ?_
    exact zz_iret X hr hlk Z4 () (if_neg w4).symm [] [] (by decide +kernel) rfl rfl dX6_hours_12

set_option maxHeartbeats 4000000 in
set_option maxRecDepth 100000 in
theorem c6_thinkOn (l : Launch) (D : va_G) (x : Nat) (tx0 : Nat) (nb : Nat) (tb : Nat) (ib : Nat) (ah : Nat) (tp : Nat) (rd : Nat) (sh : Nat) (sl : Nat) (wt : Nat) (xi0 : Int32) (xi1 : Int32) (xi2 : Int32) (xi3 : Int32) (xi4 : Int32) (ttx : Nat) (tst : Nat) (tct : Nat) (ttc : Int32) (tw : Int32) (tfi : Int32) (th : Int32) (tg : Int32) (tco : Int32) (tsp : Int32) (tto : Int32) (tz : Int32) (N : Nat) (hN : N ≤ 100) : zz_MV l yX6_thinkOn wsX6_thinkOn 4 91 0 0 D [.ref x, .int (nI N)] [(x, .inr (6, [.ref tx0, .ref nb, .ref tb, .ref ib, .ref ah, .ref tp, .ref rd, .ref sh, .ref sl, .ref wt, .int xi0, .int xi1, .int xi2, .int xi3, .int xi4])), (tb, .inr (0, [.ref ttx, .ref tst, .ref tct, .int 0, .int ttc, .int tw, .int tfi, .int th, .int tg, .int 0, .int tco, .int tsp, .int tto, .int tz]))] [] (fun (u : Int32 × Int32 × Int32 × Int32) => match u with | (f9, t9, z9, h9) => (f9, t9, z9) = zz_it tw tg N (tfi, tto, tz)) (fun (u : Int32 × Int32 × Int32 × Int32) => match u with | (f9, t9, z9, h9) => [(x, .inr (6, [.ref tx0, .ref nb, .ref tb, .ref ib, .ref ah, .ref tp, .ref rd, .ref sh, .ref sl, .ref wt, .int xi0, .int xi1, .int xi2, .int xi3, .int xi4])), (tb, .inr (0, [.ref ttx, .ref tst, .ref tct, .int 0, .int ttc, .int tw, .int f9, .int h9, .int tg, .int 0, .int tco, .int tsp, .int t9, .int z9]))]) (fun (u : Int32 × Int32 × Int32 × Int32) => match u with | (f9, t9, z9, h9) => []) := by
  intro sz
  refine Met.ofW (cc := cX6_thinkOn) (maxL := 3) (ret := none) (by decide) rfl ?_
  intro p e s m args below meth c s₁ B hml hv
  obtain ⟨rfl, hC⟩ := hv
  have hx := B.exec
  have hb := B.bytes
  have hr := B.returns
  have hts := atoms_spec (ws := wsX6_thinkOn) B.pre
  have hown : s.vm.findClass RX6 = some m.cls := findClass_of_methodNamed B.named
  have hlk := B.notSynchronized
  have X : CallFix p m c cX6_thinkOn 3 s _ wsX6_thinkOn RX6 := ⟨hx, hb, hml, hown, hts⟩
  have Z := zz_enter hC
  generalize va_A [(x, .inr (6, [.ref tx0, .ref nb, .ref tb, .ref ib, .ref ah, .ref tp, .ref rd, .ref sh, .ref sl, .ref wt, .int xi0, .int xi1, .int xi2, .int xi3, .int xi4])), (tb, .inr (0, [.ref ttx, .ref tst, .ref tct, .int 0, .int ttc, .int tw, .int tfi, .int th, .int tg, .int 0, .int tco, .int tsp, .int tto, .int tz]))] sz = A at Z ⊢
  have hl := lv_entry ([.ref x, .int (nI N)]) (n := 3) (Nat.le_of_ble_eq_true rfl)
  rw [lg_entry_eq]
  generalize (lg_sl ([.ref x, .int (nI N)]) ++ List.replicate (3 - (lg_sl ([.ref x, .int (nI N)])).length) Slot.unset).toArray = ls at hl ⊢
  have hl : lv_has ls 3 [(0, .ref x), (1, .int (nI N))] := hl
  refine lv_iconst (v := 0) hx hb dX6_thinkOn_0 (by decide) ?_
  refine lv_istore_n (lv' := [(2, .int 0), (0, .ref x), (1, .int (nI N))]) hx hb dX6_thinkOn_1 rfl hl (by decide) rfl (fun ls1 hl2 => ?_)
  clear hl
  have loop : ∀ (k i : Nat) (v1 : Int32) (v2 : Int32) (v3 : Int32) (v4 : Int32), i + k = N → zz_it tw tg k (v1, v2, v3) = zz_it tw tg N (tfi, tto, tz) → ∀ (Hq : Heap) (Lq : List Loc) (lq : Array Slot), zz_S D A s [(x, .inr (6, [.ref tx0, .ref nb, .ref tb, .ref ib, .ref ah, .ref tp, .ref rd, .ref sh, .ref sl, .ref wt, .int xi0, .int xi1, .int xi2, .int xi3, .int xi4])), (tb, .inr (0, [.ref ttx, .ref tst, .ref tct, .int 0, .int ttc, .int tw, .int v1, .int v4, .int tg, .int 0, .int tco, .int tsp, .int v2, .int v3]))] [] Hq Lq → lv_has lq 3 [(2, .int (nI i)), (0, .ref x), (1, .int (nI N))] → W p l e (headSpec wsX6_thinkOn { frames := 4, cells := 0, slots := 0, locals := 91 }).room s m (List.toArray [.ref x, .int (nI N)]) below meth c Hq Lq 0 0 (MQ below (va_Qv (fun (u : Int32 × Int32 × Int32 × Int32) => match u with | (f9, t9, z9, h9) => (f9, t9, z9) = zz_it tw tg N (tfi, tto, tz)) (fun u t => zz_B D A ((fun (u : Int32 × Int32 × Int32 × Int32) => match u with | (f9, t9, z9, h9) => [(x, .inr (6, [.ref tx0, .ref nb, .ref tb, .ref ib, .ref ah, .ref tp, .ref rd, .ref sh, .ref sl, .ref wt, .int xi0, .int xi1, .int xi2, .int xi3, .int xi4])), (tb, .inr (0, [.ref ttx, .ref tst, .ref tct, .int 0, .int ttc, .int tw, .int f9, .int h9, .int tg, .int 0, .int tco, .int tsp, .int t9, .int z9]))]) u) ((fun (u : Int32 × Int32 × Int32 × Int32) => match u with | (f9, t9, z9, h9) => []) u) t) A) (List.toArray [.ref x, .int (nI N)]) s 0 0 A) (F0 m 2 lq []) := by
    intro k
    induction k with
    | zero =>
        intro i v1 v2 v3 v4 hik hinv H3 locs4 ls5 Z6 hl7
        refine lv_iload_n hx hb dX6_thinkOn_2 rfl (lv_at hl7 0 rfl) ?_
        refine lv_iload_n hx hb dX6_thinkOn_3 rfl (lv_at hl7 2 rfl) ?_
        refine lv_icmp_ge (tgt := 27) hx hb dX6_thinkOn_4 (by decide) (fun _ => ?_) (fun h => absurd (nI_le (a := N) (b := i) (by omega) (by omega)) h)
        exact zz_vret X hr hlk Z6 (v1, v2, v3, v4) hinv [0, 1] [] (by decide +kernel) rfl rfl dX6_thinkOn_27
    | succ k ih =>
        intro i v1 v2 v3 v4 hik hinv H8 locs9 ls10 Z11 hl12
        refine lv_iload_n hx hb dX6_thinkOn_2 rfl (lv_at hl12 0 rfl) ?_
        refine lv_iload_n hx hb dX6_thinkOn_3 rfl (lv_at hl12 2 rfl) ?_
        refine lv_icmp_ge (tgt := 27) hx hb dX6_thinkOn_4 (by decide) (fun h => absurd h (nI_ge (a := i) (b := N) (by omega) (by omega))) (fun _ => ?_)
        refine lv_aload_n hx hb dX6_thinkOn_7 rfl (lv_at hl12 1 rfl) ?_
        refine zz_get X Z11 0 rfl rfl (fun w h => List.mem_cons_of_mem _ (List.mem_append_left _ (List.mem_append_left _ (List.mem_append_left _ (List.mem_append_right _ h))))) 2 rfl (zz_m 1 rfl) rfl dX6_thinkOn_8 ?_
        refine lv_aload_n hx hb dX6_thinkOn_11 rfl (lv_at hl12 1 rfl) ?_
        refine zz_get X Z11 0 rfl rfl (fun w h => List.mem_cons_of_mem _ (List.mem_append_left _ (List.mem_append_left _ (List.mem_append_left _ (List.mem_append_right _ h))))) 2 rfl (zz_m 1 rfl) rfl dX6_thinkOn_12 ?_
        refine zz_ci (WC := [(tb, .inr (0, [.ref ttx, .ref tst, .ref tct, .int 0, .int ttc, .int tw, .int v1, .int v4, .int tg, .int 0, .int tco, .int tsp, .int v2, .int v3]))]) (TC := []) (WR := [(x, .inr (6, [.ref tx0, .ref nb, .ref tb, .ref ib, .ref ah, .ref tp, .ref rd, .ref sh, .ref sl, .ref wt, .int xi0, .int xi1, .int xi2, .int xi3, .int xi4]))]) (TR := []) (k := 0) (n := 0) Z11 [1] [0] [] [] rfl rfl (by decide +kernel) (by decide +kernel) (by decide +kernel) rfl rfl (fun Zc => va_runV (As := []) (rest := [.ref tb]) X (c_hauling l D tb ttx tst tct 0 ttc tw v1 v4 tg tco tsp v2 v3 H8.size) (cwV 0 hts gX6_thinkOn_X0_hauling rfl rfl rfl ⟨rfl, zh_X0_hauling⟩ ⟨Nat.le_of_ble_eq_true rfl, Nat.le_of_ble_eq_true rfl⟩) (zz_pV (ci := 0) Zc 0 rfl rfl) rfl rfl hl12.1 rfl (lv_room (Nat.le_of_ble_eq_true rfl)) dX6_thinkOn_15 ⟨Nat.le_of_ble_eq_true rfl, Nat.le_of_ble_eq_true rfl⟩) rfl rfl (fun r3 u1 H13 locs14 hw2 Z15 => ?_)
        clear Z11
        have hw2 : r3 = 0 := hw2.trans (by decide)
        subst r3
        have Z16 : zz_S D A s [(x, .inr (6, [.ref tx0, .ref nb, .ref tb, .ref ib, .ref ah, .ref tp, .ref rd, .ref sh, .ref sl, .ref wt, .int xi0, .int xi1, .int xi2, .int xi3, .int xi4])), (tb, .inr (0, [.ref ttx, .ref tst, .ref tct, .int 0, .int ttc, .int tw, .int v1, .int v4, .int tg, .int 0, .int tco, .int tsp, .int v2, .int v3]))] [] H13 locs14 := Z15
        clear Z15
        refine zz_cv (WC := [(tb, .inr (0, [.ref ttx, .ref tst, .ref tct, .int 0, .int ttc, .int tw, .int v1, .int v4, .int tg, .int 0, .int tco, .int tsp, .int v2, .int v3]))]) (TC := []) (WR := [(x, .inr (6, [.ref tx0, .ref nb, .ref tb, .ref ib, .ref ah, .ref tp, .ref rd, .ref sh, .ref sl, .ref wt, .int xi0, .int xi1, .int xi2, .int xi3, .int xi4]))]) (TR := []) (k := 0) (n := 0) Z16 [1] [0] [] [] rfl rfl (by decide +kernel) (by decide +kernel) (by decide +kernel) rfl rfl (fun Zc => va_runV (As := [.int 0]) (rest := []) X (c_pass0 l D tb ttx tst tct ttc tw v1 v4 tg 0 tco tsp v2 v3 H13.size) (cwV 1 hts gX6_thinkOn_X0_passHour rfl rfl rfl ⟨rfl, zh_X0_passHour⟩ ⟨Nat.le_of_ble_eq_true rfl, Nat.le_of_ble_eq_true rfl⟩) (zz_pV (ci := 0) Zc 0 rfl rfl) rfl rfl hl12.1 rfl (lv_room (Nat.le_of_ble_eq_true rfl)) dX6_thinkOn_18 ⟨Nat.le_of_ble_eq_true rfl, Nat.le_of_ble_eq_true rfl⟩) rfl rfl (fun u4 H17 locs18 hw5 Z19 => ?_)
        clear Z16
        obtain ⟨f97, t98, z99⟩ := u4
        try dsimp only at hw5 Z19
        obtain ⟨rfl, rfl, rfl⟩ := hw5
        have Z20 : zz_S D A s [(x, .inr (6, [.ref tx0, .ref nb, .ref tb, .ref ib, .ref ah, .ref tp, .ref rd, .ref sh, .ref sl, .ref wt, .int xi0, .int xi1, .int xi2, .int xi3, .int xi4])), (tb, .inr (0, [.ref ttx, .ref tst, .ref tct, .int 0, .int ttc, .int tw, .int (zz_bF v1 v3 tw tg), .int (v4 + 1), .int tg, .int 0, .int tco, .int tsp, .int (zz_bT v2 v3 tg), .int (zz_bZ v3 tg)]))] [] H17 locs18 := Z19
        clear Z19
        refine lv_iinc (v := nI (i + 1)) (lv' := [(2, .int (nI (i + 1))), (0, .ref x), (1, .int (nI N))]) hx hb dX6_thinkOn_21 hl12 (k := 0) rfl (nI_1 i) (by decide) rfl (fun ls21 hl22 => ?_)
        clear hl12
        refine lv_goto (tgt := 2) hx hb dX6_thinkOn_24 (by decide) ?_
        exact ih (i + 1) (zz_bF v1 v3 tw tg) (zz_bT v2 v3 tg) (zz_bZ v3 tg) (v4 + 1) (by omega) hinv _ _ _ Z20 (lv_sub hl22 [0, 1, 2] rfl)
  exact loop N 0 tfi tto tz th (by omega) rfl _ _ _ Z hl2

set_option maxHeartbeats 4000000 in
set_option maxRecDepth 100000 in
theorem c6_behind (l : Launch) (D : va_G) (x : Nat) (tx0 : Nat) (nb : Nat) (tb : Nat) (ib : Nat) (ah : Nat) (tp : Nat) (rd : Nat) (sh : Nat) (sl : Nat) (wt : Nat) (ntx : Nat) (nst : Nat) (nct : Nat) (knc : ClassId) (ncf : (Nat → Int32)) (ttx : Nat) (tst : Nat) (tct : Nat) (ktc : ClassId) (tcf : (Nat → Int32)) (n : Int32) (what : Int32)  : zz_MI l yX6_behind wsX6_behind 5 113 0 0 D [.ref x, .int n, .int what] [(x, .inr (6, [.ref tx0, .ref nb, .ref tb, .ref ib, .ref ah, .ref tp, .ref rd, .ref sh, .ref sl, .ref wt, .int 0, .int 0, .int 0, .int 0, .int 0])), (nb, .inr (0, [.ref ntx, .ref nst, .ref nct, .int 0, .int 0, .int 3, .int 0, .int 0, .int 10, .int 0, .int 0, .int 0, .int 0, .int 1])), (nct, .inl (knc, 3, .inl ncf)), (tb, .inr (0, [.ref ttx, .ref tst, .ref tct, .int 0, .int 0, .int 3, .int 0, .int 0, .int 10, .int 0, .int 0, .int 0, .int 0, .int 1])), (tct, .inl (ktc, 3, .inl tcf))] [(knc, .int), (ktc, .int)] (fun (r : Int32) (u : Unit) => r = sp_behind n what) (fun (u : Unit) => []) (fun (u : Unit) => []) := by
  intro sz
  refine Met.ofW (cc := cX6_behind) (maxL := 3) (ret := (some .int)) (by decide) rfl ?_
  intro p e s m args below meth c s₁ B hml hv
  obtain ⟨rfl, hC⟩ := hv
  have hx := B.exec
  have hb := B.bytes
  have hr := B.returns
  have hts := atoms_spec (ws := wsX6_behind) B.pre
  have hown : s.vm.findClass RX6 = some m.cls := findClass_of_methodNamed B.named
  have hlk := B.notSynchronized
  have X : CallFix p m c cX6_behind 3 s _ wsX6_behind RX6 := ⟨hx, hb, hml, hown, hts⟩
  have Z := zz_enter hC
  generalize va_A [(x, .inr (6, [.ref tx0, .ref nb, .ref tb, .ref ib, .ref ah, .ref tp, .ref rd, .ref sh, .ref sl, .ref wt, .int 0, .int 0, .int 0, .int 0, .int 0])), (nb, .inr (0, [.ref ntx, .ref nst, .ref nct, .int 0, .int 0, .int 3, .int 0, .int 0, .int 10, .int 0, .int 0, .int 0, .int 0, .int 1])), (nct, .inl (knc, 3, .inl ncf)), (tb, .inr (0, [.ref ttx, .ref tst, .ref tct, .int 0, .int 0, .int 3, .int 0, .int 0, .int 10, .int 0, .int 0, .int 0, .int 0, .int 1])), (tct, .inl (ktc, 3, .inl tcf))] sz = A at Z ⊢
  have hl := lv_entry ([.ref x, .int n, .int what]) (n := 3) (Nat.le_of_ble_eq_true rfl)
  rw [lg_entry_eq]
  generalize (lg_sl ([.ref x, .int n, .int what]) ++ List.replicate (3 - (lg_sl ([.ref x, .int n, .int what])).length) Slot.unset).toArray = ls at hl ⊢
  have hl : lv_has ls 3 [(0, .ref x), (1, .int n), (2, .int what)] := hl
  refine lv_iload_n hx hb dX6_behind_0 rfl (lv_at hl 1 rfl) ?_
  refine lv_iconst (v := 0) hx hb dX6_behind_1 (by decide) ?_
  refine lv_bipush (v := 100) hx hb dX6_behind_2 (by decide) ?_
  refine zz_ci (WC := []) (TC := []) (WR := [(x, .inr (6, [.ref tx0, .ref nb, .ref tb, .ref ib, .ref ah, .ref tp, .ref rd, .ref sh, .ref sl, .ref wt, .int 0, .int 0, .int 0, .int 0, .int 0])), (nb, .inr (0, [.ref ntx, .ref nst, .ref nct, .int 0, .int 0, .int 3, .int 0, .int 0, .int 10, .int 0, .int 0, .int 0, .int 0, .int 1])), (nct, .inl (knc, 3, .inl ncf)), (tb, .inr (0, [.ref ttx, .ref tst, .ref tct, .int 0, .int 0, .int 3, .int 0, .int 0, .int 10, .int 0, .int 0, .int 0, .int 0, .int 1])), (tct, .inl (ktc, 3, .inl tcf))]) (TR := [(knc, .int), (ktc, .int)]) (k := 0) (n := 0) Z [] [0, 1, 2, 3, 4] [] [0, 1] rfl rfl (by decide +kernel) (by decide +kernel) (by decide +kernel) rfl rfl (fun Zc => va_runS (As := [.int n, .int 0, .int 100]) (rest := []) X (c_within l D n 0 100 s.heap.size) (va_cwS 3 hts gX6_behind_X6_within rfl rfl rfl zh_X6_within ⟨Nat.le_of_ble_eq_true rfl, Nat.le_of_ble_eq_true rfl⟩) (zz_pS Zc) rfl rfl hl.1 rfl (lv_room (Nat.le_of_ble_eq_true rfl)) dX6_behind_4 ⟨Nat.le_of_ble_eq_true rfl, Nat.le_of_ble_eq_true rfl⟩) rfl rfl (fun r3 u1 H1 locs2 hw2 Z3 => ?_)
  clear Z
  subst r3
  have Z4 : zz_S D A s [(x, .inr (6, [.ref tx0, .ref nb, .ref tb, .ref ib, .ref ah, .ref tp, .ref rd, .ref sh, .ref sl, .ref wt, .int 0, .int 0, .int 0, .int 0, .int 0])), (nb, .inr (0, [.ref ntx, .ref nst, .ref nct, .int 0, .int 0, .int 3, .int 0, .int 0, .int 10, .int 0, .int 0, .int 0, .int 0, .int 1])), (nct, .inl (knc, 3, .inl ncf)), (tb, .inr (0, [.ref ttx, .ref tst, .ref tct, .int 0, .int 0, .int 3, .int 0, .int 0, .int 10, .int 0, .int 0, .int 0, .int 0, .int 1])), (tct, .inl (ktc, 3, .inl tcf))] [(knc, .int), (ktc, .int)] H1 locs2 := Z3
  clear Z3
  by_cases w4 : 0 ≤ n ∧ n ≤ 100
  · obtain ⟨N, hN, eN⟩ := zz_rng 100 w4 (by decide)
    subst eN
    refine zz_v (v := 1) (zz_wiT w4) ?_
    refine lv_if_eq (tgt := 19) hx hb dX6_behind_7 (by decide) (fun h => absurd h (by decide)) (fun _ => ?_)
    refine lv_iload_n hx hb dX6_behind_10 rfl (lv_at hl 2 rfl) ?_
    refine lv_iconst (v := 0) hx hb dX6_behind_11 (by decide) ?_
    refine lv_iconst (v := 3) hx hb dX6_behind_12 (by decide) ?_
    refine zz_ci (WC := []) (TC := []) (WR := [(x, .inr (6, [.ref tx0, .ref nb, .ref tb, .ref ib, .ref ah, .ref tp, .ref rd, .ref sh, .ref sl, .ref wt, .int 0, .int 0, .int 0, .int 0, .int 0])), (nb, .inr (0, [.ref ntx, .ref nst, .ref nct, .int 0, .int 0, .int 3, .int 0, .int 0, .int 10, .int 0, .int 0, .int 0, .int 0, .int 1])), (nct, .inl (knc, 3, .inl ncf)), (tb, .inr (0, [.ref ttx, .ref tst, .ref tct, .int 0, .int 0, .int 3, .int 0, .int 0, .int 10, .int 0, .int 0, .int 0, .int 0, .int 1])), (tct, .inl (ktc, 3, .inl tcf))]) (TR := [(knc, .int), (ktc, .int)]) (k := 0) (n := 0) Z4 [] [0, 1, 2, 3, 4] [] [0, 1] rfl rfl (by decide +kernel) (by decide +kernel) (by decide +kernel) rfl rfl (fun Zc => va_runS (As := [.int what, .int 0, .int 3]) (rest := []) X (c_within l D what 0 3 H1.size) (va_cwS 3 hts gX6_behind_X6_within rfl rfl rfl zh_X6_within ⟨Nat.le_of_ble_eq_true rfl, Nat.le_of_ble_eq_true rfl⟩) (zz_pS Zc) rfl rfl hl.1 rfl (lv_room (Nat.le_of_ble_eq_true rfl)) dX6_behind_13 ⟨Nat.le_of_ble_eq_true rfl, Nat.le_of_ble_eq_true rfl⟩) rfl rfl (fun r7 u5 H5 locs6 hw6 Z7 => ?_)
    clear Z4
    subst r7
    have Z8 : zz_S D A s [(x, .inr (6, [.ref tx0, .ref nb, .ref tb, .ref ib, .ref ah, .ref tp, .ref rd, .ref sh, .ref sl, .ref wt, .int 0, .int 0, .int 0, .int 0, .int 0])), (nb, .inr (0, [.ref ntx, .ref nst, .ref nct, .int 0, .int 0, .int 3, .int 0, .int 0, .int 10, .int 0, .int 0, .int 0, .int 0, .int 1])), (nct, .inl (knc, 3, .inl ncf)), (tb, .inr (0, [.ref ttx, .ref tst, .ref tct, .int 0, .int 0, .int 3, .int 0, .int 0, .int 10, .int 0, .int 0, .int 0, .int 0, .int 1])), (tct, .inl (ktc, 3, .inl tcf))] [(knc, .int), (ktc, .int)] H5 locs6 := Z7
    clear Z7
    by_cases w8 : 0 ≤ what ∧ what ≤ 3
    · obtain ⟨j, hj, e9⟩ := zz_rng 3 w8 (by decide)
      rcases (show j = 0 ∨ j = 1 ∨ j = 2 ∨ j = 3 by omega) with rfl | rfl | rfl | rfl
      · have e9 : what = 0 := e9
        subst e9
        refine zz_v (v := 1) (by decide) ?_
        refine lv_if_ne (tgt := 22) hx hb dX6_behind_16 (by decide) (fun _ => ?_) (fun h => absurd h (by decide))
        refine lv_aload_n hx hb dX6_behind_22 rfl (lv_at hl 0 rfl) ?_
        refine zz_get X Z8 0 rfl rfl (fun w h => List.mem_cons_of_mem _ (List.mem_append_left _ (List.mem_append_left _ (List.mem_append_left _ (List.mem_append_right _ h))))) 2 rfl (zz_m 2 rfl) rfl dX6_behind_23 ?_
        refine lv_aload_n hx hb dX6_behind_26 rfl (lv_at hl 0 rfl) ?_
        refine zz_get X Z8 0 rfl rfl (fun w h => List.mem_cons_of_mem _ (List.mem_append_left _ (List.mem_append_left _ (List.mem_append_left _ (List.mem_append_right _ h))))) 1 rfl (zz_m 3 rfl) rfl dX6_behind_27 ?_
        refine zz_cv (WC := [(tb, .inr (0, [.ref ttx, .ref tst, .ref tct, .int 0, .int 0, .int 3, .int 0, .int 0, .int 10, .int 0, .int 0, .int 0, .int 0, .int 1])), (tct, .inl (ktc, 3, .inl tcf)), (nb, .inr (0, [.ref ntx, .ref nst, .ref nct, .int 0, .int 0, .int 3, .int 0, .int 0, .int 10, .int 0, .int 0, .int 0, .int 0, .int 1])), (nct, .inl (knc, 3, .inl ncf))]) (TC := [(ktc, .int), (knc, .int)]) (WR := [(x, .inr (6, [.ref tx0, .ref nb, .ref tb, .ref ib, .ref ah, .ref tp, .ref rd, .ref sh, .ref sl, .ref wt, .int 0, .int 0, .int 0, .int 0, .int 0]))]) (TR := []) (k := 0) (n := 0) Z8 [3, 4, 1, 2] [0] [1, 0] [] rfl rfl (by decide +kernel) (by decide +kernel) (by decide +kernel) rfl rfl (fun Zc => va_runV (As := [.ref nb]) (rest := []) X (c_takeOver l D tb ttx tst tct 0 0 3 0 0 10 0 0 0 0 1 ktc tcf nb ntx nst nct 0 3 0 0 10 0 0 0 0 1 knc ncf H5.size) (cwV 1 hts gX6_behind_X0_takeOver rfl rfl rfl ⟨rfl, zh_X0_takeOver⟩ ⟨Nat.le_of_ble_eq_true rfl, Nat.le_of_ble_eq_true rfl⟩) (zz_pV (ci := 0) Zc 0 rfl rfl) rfl rfl hl.1 rfl (lv_room (Nat.le_of_ble_eq_true rfl)) dX6_behind_30 ⟨Nat.le_of_ble_eq_true rfl, Nat.le_of_ble_eq_true rfl⟩) rfl rfl (fun u10 H9 locs10 hw11 Z11 => ?_)
        clear Z8
        obtain ⟨cf913, rfl⟩ : ∃ z, z = u10 := ⟨_, rfl⟩
        try dsimp only at hw11 Z11
        have Z12 : zz_S D A s [(x, .inr (6, [.ref tx0, .ref nb, .ref tb, .ref ib, .ref ah, .ref tp, .ref rd, .ref sh, .ref sl, .ref wt, .int 0, .int 0, .int 0, .int 0, .int 0])), (tb, .inr (0, [.ref ttx, .ref tst, .ref tct, .int 0, .int 0, .int 3, .int 0, .int 0, .int 10, .int 0, .int 0, .int 0, .int 0, .int 1])), (tct, .inl (ktc, 3, .inl cf913)), (nb, .inr (0, [.ref ntx, .ref nst, .ref nct, .int 0, .int 0, .int 3, .int 0, .int 0, .int 10, .int 0, .int 0, .int 0, .int 0, .int 1])), (nct, .inl (knc, 3, .inl ncf))] [(ktc, .int), (knc, .int)] H9 locs10 := Z11
        clear Z11
        refine lv_aload_n hx hb dX6_behind_33 rfl (lv_at hl 0 rfl) ?_
        refine lv_iload_n hx hb dX6_behind_34 rfl (lv_at hl 1 rfl) ?_
        refine zz_cv (WC := [(x, .inr (6, [.ref tx0, .ref nb, .ref tb, .ref ib, .ref ah, .ref tp, .ref rd, .ref sh, .ref sl, .ref wt, .int 0, .int 0, .int 0, .int 0, .int 0])), (tb, .inr (0, [.ref ttx, .ref tst, .ref tct, .int 0, .int 0, .int 3, .int 0, .int 0, .int 10, .int 0, .int 0, .int 0, .int 0, .int 1]))]) (TC := []) (WR := [(tct, .inl (ktc, 3, .inl cf913)), (nb, .inr (0, [.ref ntx, .ref nst, .ref nct, .int 0, .int 0, .int 3, .int 0, .int 0, .int 10, .int 0, .int 0, .int 0, .int 0, .int 1])), (nct, .inl (knc, 3, .inl ncf))]) (TR := [(ktc, .int), (knc, .int)]) (k := 0) (n := 0) Z12 [0, 1] [2, 3, 4] [] [0, 1] rfl rfl (by decide +kernel) (by decide +kernel) (by decide +kernel) rfl rfl (fun Zc => va_runV (As := [.int (nI N)]) (rest := []) X (c6_thinkOn l D x tx0 nb tb ib ah tp rd sh sl wt 0 0 0 0 0 ttx tst tct 0 3 0 0 10 0 0 0 1 N (by omega) H9.size) (cwV 1 hts gX6_behind_X6_thinkOn rfl rfl rfl ⟨rfl, zh_X6_thinkOn⟩ ⟨Nat.le_of_ble_eq_true rfl, Nat.le_of_ble_eq_true rfl⟩) (zz_pV (ci := 6) Zc 0 rfl rfl) rfl rfl hl.1 rfl (lv_room (Nat.le_of_ble_eq_true rfl)) dX6_behind_35 ⟨Nat.le_of_ble_eq_true rfl, Nat.le_of_ble_eq_true rfl⟩) rfl rfl (fun u14 H13 locs14 hw15 Z15 => ?_)
        clear Z12
        obtain ⟨f917, t918, z919, h920⟩ := u14
        try dsimp only at hw15 Z15
        have Z16 : zz_S D A s [(tct, .inl (ktc, 3, .inl cf913)), (nb, .inr (0, [.ref ntx, .ref nst, .ref nct, .int 0, .int 0, .int 3, .int 0, .int 0, .int 10, .int 0, .int 0, .int 0, .int 0, .int 1])), (nct, .inl (knc, 3, .inl ncf)), (x, .inr (6, [.ref tx0, .ref nb, .ref tb, .ref ib, .ref ah, .ref tp, .ref rd, .ref sh, .ref sl, .ref wt, .int 0, .int 0, .int 0, .int 0, .int 0])), (tb, .inr (0, [.ref ttx, .ref tst, .ref tct, .int 0, .int 0, .int 3, .int f917, .int h920, .int 10, .int 0, .int 0, .int 0, .int t918, .int z919]))] [(ktc, .int), (knc, .int)] H13 locs14 := Z15
        clear Z15
        refine lv_iload_n hx hb dX6_behind_38 rfl (lv_at hl 2 rfl) ?_
        refine lv_tableIn (x := 0) (off := 25) (tgt := 64) hx hb dX6_behind_39 (by decide) (by decide) rfl (by decide) ?_
        refine lv_aload_n hx hb dX6_behind_64 rfl (lv_at hl 0 rfl) ?_
        refine zz_get X Z16 3 rfl rfl (fun w h => List.mem_cons_of_mem _ (List.mem_append_left _ (List.mem_append_left _ (List.mem_append_left _ (List.mem_append_right _ h))))) 2 rfl (zz_m 2 rfl) rfl dX6_behind_65 ?_
        refine zz_get X Z16 4 rfl rfl (fun w h => List.mem_cons_of_mem _ (List.mem_append_left _ (List.mem_append_left _ (List.mem_append_right _ h)))) 11 rfl (zz_m 4 rfl) rfl dX6_behind_68 ?_
        exact zz_iret X hr hlk Z16 () (sp_behind0 w4) [] [] (by decide +kernel) rfl rfl dX6_behind_71
      · have e9 : what = 1 := e9
        subst e9
        refine zz_v (v := 1) (by decide) ?_
        refine lv_if_ne (tgt := 22) hx hb dX6_behind_16 (by decide) (fun _ => ?_) (fun h => absurd h (by decide))
        refine lv_aload_n hx hb dX6_behind_22 rfl (lv_at hl 0 rfl) ?_
        refine zz_get X Z8 0 rfl rfl (fun w h => List.mem_cons_of_mem _ (List.mem_append_left _ (List.mem_append_left _ (List.mem_append_left _ (List.mem_append_right _ h))))) 2 rfl (zz_m 2 rfl) rfl dX6_behind_23 ?_
        refine lv_aload_n hx hb dX6_behind_26 rfl (lv_at hl 0 rfl) ?_
        refine zz_get X Z8 0 rfl rfl (fun w h => List.mem_cons_of_mem _ (List.mem_append_left _ (List.mem_append_left _ (List.mem_append_left _ (List.mem_append_right _ h))))) 1 rfl (zz_m 3 rfl) rfl dX6_behind_27 ?_
        refine zz_cv (WC := [(tb, .inr (0, [.ref ttx, .ref tst, .ref tct, .int 0, .int 0, .int 3, .int 0, .int 0, .int 10, .int 0, .int 0, .int 0, .int 0, .int 1])), (tct, .inl (ktc, 3, .inl tcf)), (nb, .inr (0, [.ref ntx, .ref nst, .ref nct, .int 0, .int 0, .int 3, .int 0, .int 0, .int 10, .int 0, .int 0, .int 0, .int 0, .int 1])), (nct, .inl (knc, 3, .inl ncf))]) (TC := [(ktc, .int), (knc, .int)]) (WR := [(x, .inr (6, [.ref tx0, .ref nb, .ref tb, .ref ib, .ref ah, .ref tp, .ref rd, .ref sh, .ref sl, .ref wt, .int 0, .int 0, .int 0, .int 0, .int 0]))]) (TR := []) (k := 0) (n := 0) Z8 [3, 4, 1, 2] [0] [1, 0] [] rfl rfl (by decide +kernel) (by decide +kernel) (by decide +kernel) rfl rfl (fun Zc => va_runV (As := [.ref nb]) (rest := []) X (c_takeOver l D tb ttx tst tct 0 0 3 0 0 10 0 0 0 0 1 ktc tcf nb ntx nst nct 0 3 0 0 10 0 0 0 0 1 knc ncf H5.size) (cwV 1 hts gX6_behind_X0_takeOver rfl rfl rfl ⟨rfl, zh_X0_takeOver⟩ ⟨Nat.le_of_ble_eq_true rfl, Nat.le_of_ble_eq_true rfl⟩) (zz_pV (ci := 0) Zc 0 rfl rfl) rfl rfl hl.1 rfl (lv_room (Nat.le_of_ble_eq_true rfl)) dX6_behind_30 ⟨Nat.le_of_ble_eq_true rfl, Nat.le_of_ble_eq_true rfl⟩) rfl rfl (fun u21 H17 locs18 hw22 Z19 => ?_)
        clear Z8
        obtain ⟨cf924, rfl⟩ : ∃ z, z = u21 := ⟨_, rfl⟩
        try dsimp only at hw22 Z19
        have Z20 : zz_S D A s [(x, .inr (6, [.ref tx0, .ref nb, .ref tb, .ref ib, .ref ah, .ref tp, .ref rd, .ref sh, .ref sl, .ref wt, .int 0, .int 0, .int 0, .int 0, .int 0])), (tb, .inr (0, [.ref ttx, .ref tst, .ref tct, .int 0, .int 0, .int 3, .int 0, .int 0, .int 10, .int 0, .int 0, .int 0, .int 0, .int 1])), (tct, .inl (ktc, 3, .inl cf924)), (nb, .inr (0, [.ref ntx, .ref nst, .ref nct, .int 0, .int 0, .int 3, .int 0, .int 0, .int 10, .int 0, .int 0, .int 0, .int 0, .int 1])), (nct, .inl (knc, 3, .inl ncf))] [(ktc, .int), (knc, .int)] H17 locs18 := Z19
        clear Z19
        refine lv_aload_n hx hb dX6_behind_33 rfl (lv_at hl 0 rfl) ?_
        refine lv_iload_n hx hb dX6_behind_34 rfl (lv_at hl 1 rfl) ?_
        refine zz_cv (WC := [(x, .inr (6, [.ref tx0, .ref nb, .ref tb, .ref ib, .ref ah, .ref tp, .ref rd, .ref sh, .ref sl, .ref wt, .int 0, .int 0, .int 0, .int 0, .int 0])), (tb, .inr (0, [.ref ttx, .ref tst, .ref tct, .int 0, .int 0, .int 3, .int 0, .int 0, .int 10, .int 0, .int 0, .int 0, .int 0, .int 1]))]) (TC := []) (WR := [(tct, .inl (ktc, 3, .inl cf924)), (nb, .inr (0, [.ref ntx, .ref nst, .ref nct, .int 0, .int 0, .int 3, .int 0, .int 0, .int 10, .int 0, .int 0, .int 0, .int 0, .int 1])), (nct, .inl (knc, 3, .inl ncf))]) (TR := [(ktc, .int), (knc, .int)]) (k := 0) (n := 0) Z20 [0, 1] [2, 3, 4] [] [0, 1] rfl rfl (by decide +kernel) (by decide +kernel) (by decide +kernel) rfl rfl (fun Zc => va_runV (As := [.int (nI N)]) (rest := []) X (c6_thinkOn l D x tx0 nb tb ib ah tp rd sh sl wt 0 0 0 0 0 ttx tst tct 0 3 0 0 10 0 0 0 1 N (by omega) H17.size) (cwV 1 hts gX6_behind_X6_thinkOn rfl rfl rfl ⟨rfl, zh_X6_thinkOn⟩ ⟨Nat.le_of_ble_eq_true rfl, Nat.le_of_ble_eq_true rfl⟩) (zz_pV (ci := 6) Zc 0 rfl rfl) rfl rfl hl.1 rfl (lv_room (Nat.le_of_ble_eq_true rfl)) dX6_behind_35 ⟨Nat.le_of_ble_eq_true rfl, Nat.le_of_ble_eq_true rfl⟩) rfl rfl (fun u25 H21 locs22 hw26 Z23 => ?_)
        clear Z20
        obtain ⟨f928, t929, z930, h931⟩ := u25
        try dsimp only at hw26 Z23
        have Z24 : zz_S D A s [(tct, .inl (ktc, 3, .inl cf924)), (nb, .inr (0, [.ref ntx, .ref nst, .ref nct, .int 0, .int 0, .int 3, .int 0, .int 0, .int 10, .int 0, .int 0, .int 0, .int 0, .int 1])), (nct, .inl (knc, 3, .inl ncf)), (x, .inr (6, [.ref tx0, .ref nb, .ref tb, .ref ib, .ref ah, .ref tp, .ref rd, .ref sh, .ref sl, .ref wt, .int 0, .int 0, .int 0, .int 0, .int 0])), (tb, .inr (0, [.ref ttx, .ref tst, .ref tct, .int 0, .int 0, .int 3, .int f928, .int h931, .int 10, .int 0, .int 0, .int 0, .int t929, .int z930]))] [(ktc, .int), (knc, .int)] H21 locs22 := Z23
        clear Z23
        refine lv_iload_n hx hb dX6_behind_38 rfl (lv_at hl 2 rfl) ?_
        refine lv_tableIn (x := 1) (off := 33) (tgt := 72) hx hb dX6_behind_39 (by decide) (by decide) rfl (by decide) ?_
        refine lv_aload_n hx hb dX6_behind_72 rfl (lv_at hl 0 rfl) ?_
        refine zz_get X Z24 3 rfl rfl (fun w h => List.mem_cons_of_mem _ (List.mem_append_left _ (List.mem_append_left _ (List.mem_append_left _ (List.mem_append_right _ h))))) 2 rfl (zz_m 2 rfl) rfl dX6_behind_73 ?_
        refine zz_get X Z24 4 rfl rfl (fun w h => List.mem_cons_of_mem _ (List.mem_append_left _ (List.mem_append_left _ (List.mem_append_right _ h)))) 10 rfl (zz_m 5 rfl) rfl dX6_behind_76 ?_
        exact zz_iret X hr hlk Z24 () (sp_behind1 w4) [] [] (by decide +kernel) rfl rfl dX6_behind_79
      · have e9 : what = 2 := e9
        subst e9
        refine zz_v (v := 1) (by decide) ?_
        refine lv_if_ne (tgt := 22) hx hb dX6_behind_16 (by decide) (fun _ => ?_) (fun h => absurd h (by decide))
        refine lv_aload_n hx hb dX6_behind_22 rfl (lv_at hl 0 rfl) ?_
        refine zz_get X Z8 0 rfl rfl (fun w h => List.mem_cons_of_mem _ (List.mem_append_left _ (List.mem_append_left _ (List.mem_append_left _ (List.mem_append_right _ h))))) 2 rfl (zz_m 2 rfl) rfl dX6_behind_23 ?_
        refine lv_aload_n hx hb dX6_behind_26 rfl (lv_at hl 0 rfl) ?_
        refine zz_get X Z8 0 rfl rfl (fun w h => List.mem_cons_of_mem _ (List.mem_append_left _ (List.mem_append_left _ (List.mem_append_left _ (List.mem_append_right _ h))))) 1 rfl (zz_m 3 rfl) rfl dX6_behind_27 ?_
        refine zz_cv (WC := [(tb, .inr (0, [.ref ttx, .ref tst, .ref tct, .int 0, .int 0, .int 3, .int 0, .int 0, .int 10, .int 0, .int 0, .int 0, .int 0, .int 1])), (tct, .inl (ktc, 3, .inl tcf)), (nb, .inr (0, [.ref ntx, .ref nst, .ref nct, .int 0, .int 0, .int 3, .int 0, .int 0, .int 10, .int 0, .int 0, .int 0, .int 0, .int 1])), (nct, .inl (knc, 3, .inl ncf))]) (TC := [(ktc, .int), (knc, .int)]) (WR := [(x, .inr (6, [.ref tx0, .ref nb, .ref tb, .ref ib, .ref ah, .ref tp, .ref rd, .ref sh, .ref sl, .ref wt, .int 0, .int 0, .int 0, .int 0, .int 0]))]) (TR := []) (k := 0) (n := 0) Z8 [3, 4, 1, 2] [0] [1, 0] [] rfl rfl (by decide +kernel) (by decide +kernel) (by decide +kernel) rfl rfl (fun Zc => va_runV (As := [.ref nb]) (rest := []) X (c_takeOver l D tb ttx tst tct 0 0 3 0 0 10 0 0 0 0 1 ktc tcf nb ntx nst nct 0 3 0 0 10 0 0 0 0 1 knc ncf H5.size) (cwV 1 hts gX6_behind_X0_takeOver rfl rfl rfl ⟨rfl, zh_X0_takeOver⟩ ⟨Nat.le_of_ble_eq_true rfl, Nat.le_of_ble_eq_true rfl⟩) (zz_pV (ci := 0) Zc 0 rfl rfl) rfl rfl hl.1 rfl (lv_room (Nat.le_of_ble_eq_true rfl)) dX6_behind_30 ⟨Nat.le_of_ble_eq_true rfl, Nat.le_of_ble_eq_true rfl⟩) rfl rfl (fun u32 H25 locs26 hw33 Z27 => ?_)
        clear Z8
        obtain ⟨cf935, rfl⟩ : ∃ z, z = u32 := ⟨_, rfl⟩
        try dsimp only at hw33 Z27
        have Z28 : zz_S D A s [(x, .inr (6, [.ref tx0, .ref nb, .ref tb, .ref ib, .ref ah, .ref tp, .ref rd, .ref sh, .ref sl, .ref wt, .int 0, .int 0, .int 0, .int 0, .int 0])), (tb, .inr (0, [.ref ttx, .ref tst, .ref tct, .int 0, .int 0, .int 3, .int 0, .int 0, .int 10, .int 0, .int 0, .int 0, .int 0, .int 1])), (tct, .inl (ktc, 3, .inl cf935)), (nb, .inr (0, [.ref ntx, .ref nst, .ref nct, .int 0, .int 0, .int 3, .int 0, .int 0, .int 10, .int 0, .int 0, .int 0, .int 0, .int 1])), (nct, .inl (knc, 3, .inl ncf))] [(ktc, .int), (knc, .int)] H25 locs26 := Z27
        clear Z27
        refine lv_aload_n hx hb dX6_behind_33 rfl (lv_at hl 0 rfl) ?_
        refine lv_iload_n hx hb dX6_behind_34 rfl (lv_at hl 1 rfl) ?_
        refine zz_cv (WC := [(x, .inr (6, [.ref tx0, .ref nb, .ref tb, .ref ib, .ref ah, .ref tp, .ref rd, .ref sh, .ref sl, .ref wt, .int 0, .int 0, .int 0, .int 0, .int 0])), (tb, .inr (0, [.ref ttx, .ref tst, .ref tct, .int 0, .int 0, .int 3, .int 0, .int 0, .int 10, .int 0, .int 0, .int 0, .int 0, .int 1]))]) (TC := []) (WR := [(tct, .inl (ktc, 3, .inl cf935)), (nb, .inr (0, [.ref ntx, .ref nst, .ref nct, .int 0, .int 0, .int 3, .int 0, .int 0, .int 10, .int 0, .int 0, .int 0, .int 0, .int 1])), (nct, .inl (knc, 3, .inl ncf))]) (TR := [(ktc, .int), (knc, .int)]) (k := 0) (n := 0) Z28 [0, 1] [2, 3, 4] [] [0, 1] rfl rfl (by decide +kernel) (by decide +kernel) (by decide +kernel) rfl rfl (fun Zc => va_runV (As := [.int (nI N)]) (rest := []) X (c6_thinkOn l D x tx0 nb tb ib ah tp rd sh sl wt 0 0 0 0 0 ttx tst tct 0 3 0 0 10 0 0 0 1 N (by omega) H25.size) (cwV 1 hts gX6_behind_X6_thinkOn rfl rfl rfl ⟨rfl, zh_X6_thinkOn⟩ ⟨Nat.le_of_ble_eq_true rfl, Nat.le_of_ble_eq_true rfl⟩) (zz_pV (ci := 6) Zc 0 rfl rfl) rfl rfl hl.1 rfl (lv_room (Nat.le_of_ble_eq_true rfl)) dX6_behind_35 ⟨Nat.le_of_ble_eq_true rfl, Nat.le_of_ble_eq_true rfl⟩) rfl rfl (fun u36 H29 locs30 hw37 Z31 => ?_)
        clear Z28
        obtain ⟨f939, t940, z941, h942⟩ := u36
        try dsimp only at hw37 Z31
        have Z32 : zz_S D A s [(tct, .inl (ktc, 3, .inl cf935)), (nb, .inr (0, [.ref ntx, .ref nst, .ref nct, .int 0, .int 0, .int 3, .int 0, .int 0, .int 10, .int 0, .int 0, .int 0, .int 0, .int 1])), (nct, .inl (knc, 3, .inl ncf)), (x, .inr (6, [.ref tx0, .ref nb, .ref tb, .ref ib, .ref ah, .ref tp, .ref rd, .ref sh, .ref sl, .ref wt, .int 0, .int 0, .int 0, .int 0, .int 0])), (tb, .inr (0, [.ref ttx, .ref tst, .ref tct, .int 0, .int 0, .int 3, .int f939, .int h942, .int 10, .int 0, .int 0, .int 0, .int t940, .int z941]))] [(ktc, .int), (knc, .int)] H29 locs30 := Z31
        clear Z31
        refine lv_iload_n hx hb dX6_behind_38 rfl (lv_at hl 2 rfl) ?_
        refine lv_tableIn (x := 2) (off := 41) (tgt := 80) hx hb dX6_behind_39 (by decide) (by decide) rfl (by decide) ?_
        refine lv_aload_n hx hb dX6_behind_80 rfl (lv_at hl 0 rfl) ?_
        refine zz_get X Z32 3 rfl rfl (fun w h => List.mem_cons_of_mem _ (List.mem_append_left _ (List.mem_append_left _ (List.mem_append_left _ (List.mem_append_right _ h))))) 2 rfl (zz_m 2 rfl) rfl dX6_behind_81 ?_
        refine zz_get X Z32 4 rfl rfl (fun w h => List.mem_cons_of_mem _ (List.mem_append_left _ (List.mem_append_left _ (List.mem_append_right _ h)))) 6 rfl (zz_m 6 rfl) rfl dX6_behind_84 ?_
        exact zz_iret X hr hlk Z32 () (sp_behind2 hN w4 hw37) [] [] (by decide +kernel) rfl rfl dX6_behind_87
      · have e9 : what = 3 := e9
        subst e9
        refine zz_v (v := 1) (by decide) ?_
        refine lv_if_ne (tgt := 22) hx hb dX6_behind_16 (by decide) (fun _ => ?_) (fun h => absurd h (by decide))
        refine lv_aload_n hx hb dX6_behind_22 rfl (lv_at hl 0 rfl) ?_
        refine zz_get X Z8 0 rfl rfl (fun w h => List.mem_cons_of_mem _ (List.mem_append_left _ (List.mem_append_left _ (List.mem_append_left _ (List.mem_append_right _ h))))) 2 rfl (zz_m 2 rfl) rfl dX6_behind_23 ?_
        refine lv_aload_n hx hb dX6_behind_26 rfl (lv_at hl 0 rfl) ?_
        refine zz_get X Z8 0 rfl rfl (fun w h => List.mem_cons_of_mem _ (List.mem_append_left _ (List.mem_append_left _ (List.mem_append_left _ (List.mem_append_right _ h))))) 1 rfl (zz_m 3 rfl) rfl dX6_behind_27 ?_
        refine zz_cv (WC := [(tb, .inr (0, [.ref ttx, .ref tst, .ref tct, .int 0, .int 0, .int 3, .int 0, .int 0, .int 10, .int 0, .int 0, .int 0, .int 0, .int 1])), (tct, .inl (ktc, 3, .inl tcf)), (nb, .inr (0, [.ref ntx, .ref nst, .ref nct, .int 0, .int 0, .int 3, .int 0, .int 0, .int 10, .int 0, .int 0, .int 0, .int 0, .int 1])), (nct, .inl (knc, 3, .inl ncf))]) (TC := [(ktc, .int), (knc, .int)]) (WR := [(x, .inr (6, [.ref tx0, .ref nb, .ref tb, .ref ib, .ref ah, .ref tp, .ref rd, .ref sh, .ref sl, .ref wt, .int 0, .int 0, .int 0, .int 0, .int 0]))]) (TR := []) (k := 0) (n := 0) Z8 [3, 4, 1, 2] [0] [1, 0] [] rfl rfl (by decide +kernel) (by decide +kernel) (by decide +kernel) rfl rfl (fun Zc => va_runV (As := [.ref nb]) (rest := []) X (c_takeOver l D tb ttx tst tct 0 0 3 0 0 10 0 0 0 0 1 ktc tcf nb ntx nst nct 0 3 0 0 10 0 0 0 0 1 knc ncf H5.size) (cwV 1 hts gX6_behind_X0_takeOver rfl rfl rfl ⟨rfl, zh_X0_takeOver⟩ ⟨Nat.le_of_ble_eq_true rfl, Nat.le_of_ble_eq_true rfl⟩) (zz_pV (ci := 0) Zc 0 rfl rfl) rfl rfl hl.1 rfl (lv_room (Nat.le_of_ble_eq_true rfl)) dX6_behind_30 ⟨Nat.le_of_ble_eq_true rfl, Nat.le_of_ble_eq_true rfl⟩) rfl rfl (fun u43 H33 locs34 hw44 Z35 => ?_)
        clear Z8
        obtain ⟨cf946, rfl⟩ : ∃ z, z = u43 := ⟨_, rfl⟩
        try dsimp only at hw44 Z35
        have Z36 : zz_S D A s [(x, .inr (6, [.ref tx0, .ref nb, .ref tb, .ref ib, .ref ah, .ref tp, .ref rd, .ref sh, .ref sl, .ref wt, .int 0, .int 0, .int 0, .int 0, .int 0])), (tb, .inr (0, [.ref ttx, .ref tst, .ref tct, .int 0, .int 0, .int 3, .int 0, .int 0, .int 10, .int 0, .int 0, .int 0, .int 0, .int 1])), (tct, .inl (ktc, 3, .inl cf946)), (nb, .inr (0, [.ref ntx, .ref nst, .ref nct, .int 0, .int 0, .int 3, .int 0, .int 0, .int 10, .int 0, .int 0, .int 0, .int 0, .int 1])), (nct, .inl (knc, 3, .inl ncf))] [(ktc, .int), (knc, .int)] H33 locs34 := Z35
        clear Z35
        refine lv_aload_n hx hb dX6_behind_33 rfl (lv_at hl 0 rfl) ?_
        refine lv_iload_n hx hb dX6_behind_34 rfl (lv_at hl 1 rfl) ?_
        refine zz_cv (WC := [(x, .inr (6, [.ref tx0, .ref nb, .ref tb, .ref ib, .ref ah, .ref tp, .ref rd, .ref sh, .ref sl, .ref wt, .int 0, .int 0, .int 0, .int 0, .int 0])), (tb, .inr (0, [.ref ttx, .ref tst, .ref tct, .int 0, .int 0, .int 3, .int 0, .int 0, .int 10, .int 0, .int 0, .int 0, .int 0, .int 1]))]) (TC := []) (WR := [(tct, .inl (ktc, 3, .inl cf946)), (nb, .inr (0, [.ref ntx, .ref nst, .ref nct, .int 0, .int 0, .int 3, .int 0, .int 0, .int 10, .int 0, .int 0, .int 0, .int 0, .int 1])), (nct, .inl (knc, 3, .inl ncf))]) (TR := [(ktc, .int), (knc, .int)]) (k := 0) (n := 0) Z36 [0, 1] [2, 3, 4] [] [0, 1] rfl rfl (by decide +kernel) (by decide +kernel) (by decide +kernel) rfl rfl (fun Zc => va_runV (As := [.int (nI N)]) (rest := []) X (c6_thinkOn l D x tx0 nb tb ib ah tp rd sh sl wt 0 0 0 0 0 ttx tst tct 0 3 0 0 10 0 0 0 1 N (by omega) H33.size) (cwV 1 hts gX6_behind_X6_thinkOn rfl rfl rfl ⟨rfl, zh_X6_thinkOn⟩ ⟨Nat.le_of_ble_eq_true rfl, Nat.le_of_ble_eq_true rfl⟩) (zz_pV (ci := 6) Zc 0 rfl rfl) rfl rfl hl.1 rfl (lv_room (Nat.le_of_ble_eq_true rfl)) dX6_behind_35 ⟨Nat.le_of_ble_eq_true rfl, Nat.le_of_ble_eq_true rfl⟩) rfl rfl (fun u47 H37 locs38 hw48 Z39 => ?_)
        clear Z36
        obtain ⟨f950, t951, z952, h953⟩ := u47
        try dsimp only at hw48 Z39
        have Z40 : zz_S D A s [(tct, .inl (ktc, 3, .inl cf946)), (nb, .inr (0, [.ref ntx, .ref nst, .ref nct, .int 0, .int 0, .int 3, .int 0, .int 0, .int 10, .int 0, .int 0, .int 0, .int 0, .int 1])), (nct, .inl (knc, 3, .inl ncf)), (x, .inr (6, [.ref tx0, .ref nb, .ref tb, .ref ib, .ref ah, .ref tp, .ref rd, .ref sh, .ref sl, .ref wt, .int 0, .int 0, .int 0, .int 0, .int 0])), (tb, .inr (0, [.ref ttx, .ref tst, .ref tct, .int 0, .int 0, .int 3, .int f950, .int h953, .int 10, .int 0, .int 0, .int 0, .int t951, .int z952]))] [(ktc, .int), (knc, .int)] H37 locs38 := Z39
        clear Z39
        refine lv_iload_n hx hb dX6_behind_38 rfl (lv_at hl 2 rfl) ?_
        refine lv_tableOut (x := 3) (tgt := 88) hx hb dX6_behind_39 (by decide) (by decide) ?_
        refine lv_aload_n hx hb dX6_behind_88 rfl (lv_at hl 0 rfl) ?_
        refine zz_get X Z40 3 rfl rfl (fun w h => List.mem_cons_of_mem _ (List.mem_append_left _ (List.mem_append_left _ (List.mem_append_left _ (List.mem_append_right _ h))))) 2 rfl (zz_m 2 rfl) rfl dX6_behind_89 ?_
        refine zz_get X Z40 4 rfl rfl (fun w h => List.mem_cons_of_mem _ (List.mem_append_left _ (List.mem_append_left _ (List.mem_append_right _ h)))) 12 rfl (zz_m 7 rfl) rfl dX6_behind_92 ?_
        exact zz_iret X hr hlk Z40 () (sp_behind3 hN w4 hw48) [] [] (by decide +kernel) rfl rfl dX6_behind_95
    · refine zz_v (v := 0) (zz_wiF w8) ?_
      refine lv_if_ne (tgt := 22) hx hb dX6_behind_16 (by decide) (fun h => absurd (by decide) h) (fun _ => ?_)
      refine lv_ldc (v := (-1000000001)) hx hb hown (hts _ (zz_m 1 rfl)) dX6_behind_19 ?_
      exact zz_iret X hr hlk Z8 () (by simp [sp_behind, w4, w8]) [] [] (by decide +kernel) rfl rfl dX6_behind_21
  · refine zz_v (v := 0) (zz_wiF w4) ?_
    refine lv_if_eq (tgt := 19) hx hb dX6_behind_7 (by decide) (fun _ => ?_) (fun h => absurd (by decide) h)
    refine lv_ldc (v := (-1000000001)) hx hb hown (hts _ (zz_m 1 rfl)) dX6_behind_19 ?_
    exact zz_iret X hr hlk Z4 () (by simp [sp_behind, w4]) [] [] (by decide +kernel) rfl rfl dX6_behind_21

set_option maxHeartbeats 4000000 in
set_option maxRecDepth 100000 in
theorem c6_wider (l : Launch) (D : va_G) (x : Nat) (tx0 : Nat) (nb : Nat) (tb : Nat) (ib : Nat) (ah : Nat) (tp : Nat) (rd : Nat) (sh : Nat) (sl : Nat) (wt : Nat) (ntx : Nat) (nst : Nat) (nct : Nat) (knc : ClassId) (ncf : (Nat → Int32)) (ttx : Nat) (tst : Nat) (tct : Nat) (ktc : ClassId) (tcf : (Nat → Int32)) (ww : Int32) (n : Int32)  : zz_MI l yX6_wider wsX6_wider 5 113 0 0 D [.ref x, .int ww, .int n] [(x, .inr (6, [.ref tx0, .ref nb, .ref tb, .ref ib, .ref ah, .ref tp, .ref rd, .ref sh, .ref sl, .ref wt, .int 0, .int 0, .int 0, .int 0, .int 0])), (nb, .inr (0, [.ref ntx, .ref nst, .ref nct, .int 0, .int 0, .int 3, .int 0, .int 0, .int 10, .int 0, .int 0, .int 0, .int 0, .int 1])), (nct, .inl (knc, 3, .inl ncf)), (tb, .inr (0, [.ref ttx, .ref tst, .ref tct, .int 0, .int 0, .int 3, .int 0, .int 0, .int 10, .int 0, .int 0, .int 0, .int 0, .int 1])), (tct, .inl (ktc, 3, .inl tcf))] [(knc, .int), (ktc, .int)] (fun (r : Int32) (u : Unit) => r = sp_wider ww n) (fun (u : Unit) => []) (fun (u : Unit) => []) := by
  intro sz
  refine Met.ofW (cc := cX6_wider) (maxL := 4) (ret := (some .int)) (by decide) rfl ?_
  intro p e s m args below meth c s₁ B hml hv
  obtain ⟨rfl, hC⟩ := hv
  have hx := B.exec
  have hb := B.bytes
  have hr := B.returns
  have hts := atoms_spec (ws := wsX6_wider) B.pre
  have hown : s.vm.findClass RX6 = some m.cls := findClass_of_methodNamed B.named
  have hlk := B.notSynchronized
  have X : CallFix p m c cX6_wider 4 s _ wsX6_wider RX6 := ⟨hx, hb, hml, hown, hts⟩
  have Z := zz_enter hC
  generalize va_A [(x, .inr (6, [.ref tx0, .ref nb, .ref tb, .ref ib, .ref ah, .ref tp, .ref rd, .ref sh, .ref sl, .ref wt, .int 0, .int 0, .int 0, .int 0, .int 0])), (nb, .inr (0, [.ref ntx, .ref nst, .ref nct, .int 0, .int 0, .int 3, .int 0, .int 0, .int 10, .int 0, .int 0, .int 0, .int 0, .int 1])), (nct, .inl (knc, 3, .inl ncf)), (tb, .inr (0, [.ref ttx, .ref tst, .ref tct, .int 0, .int 0, .int 3, .int 0, .int 0, .int 10, .int 0, .int 0, .int 0, .int 0, .int 1])), (tct, .inl (ktc, 3, .inl tcf))] sz = A at Z ⊢
  have hl := lv_entry ([.ref x, .int ww, .int n]) (n := 4) (Nat.le_of_ble_eq_true rfl)
  rw [lg_entry_eq]
  generalize (lg_sl ([.ref x, .int ww, .int n]) ++ List.replicate (4 - (lg_sl ([.ref x, .int ww, .int n])).length) Slot.unset).toArray = ls at hl ⊢
  have hl : lv_has ls 4 [(0, .ref x), (1, .int ww), (2, .int n)] := hl
  refine lv_iload_n hx hb dX6_wider_0 rfl (lv_at hl 1 rfl) ?_
  refine lv_iconst (v := 0) hx hb dX6_wider_1 (by decide) ?_
  refine lv_sipush (v := 9999) hx hb dX6_wider_2 (by decide) ?_
  refine zz_ci (WC := []) (TC := []) (WR := [(x, .inr (6, [.ref tx0, .ref nb, .ref tb, .ref ib, .ref ah, .ref tp, .ref rd, .ref sh, .ref sl, .ref wt, .int 0, .int 0, .int 0, .int 0, .int 0])), (nb, .inr (0, [.ref ntx, .ref nst, .ref nct, .int 0, .int 0, .int 3, .int 0, .int 0, .int 10, .int 0, .int 0, .int 0, .int 0, .int 1])), (nct, .inl (knc, 3, .inl ncf)), (tb, .inr (0, [.ref ttx, .ref tst, .ref tct, .int 0, .int 0, .int 3, .int 0, .int 0, .int 10, .int 0, .int 0, .int 0, .int 0, .int 1])), (tct, .inl (ktc, 3, .inl tcf))]) (TR := [(knc, .int), (ktc, .int)]) (k := 0) (n := 0) Z [] [0, 1, 2, 3, 4] [] [0, 1] rfl rfl (by decide +kernel) (by decide +kernel) (by decide +kernel) rfl rfl (fun Zc => va_runS (As := [.int ww, .int 0, .int 9999]) (rest := []) X (c_within l D ww 0 9999 s.heap.size) (va_cwS 3 hts gX6_wider_X6_within rfl rfl rfl zh_X6_within ⟨Nat.le_of_ble_eq_true rfl, Nat.le_of_ble_eq_true rfl⟩) (zz_pS Zc) rfl rfl hl.1 rfl (lv_room (Nat.le_of_ble_eq_true rfl)) dX6_wider_5 ⟨Nat.le_of_ble_eq_true rfl, Nat.le_of_ble_eq_true rfl⟩) rfl rfl (fun r3 u1 H1 locs2 hw2 Z3 => ?_)
  clear Z
  subst r3
  have Z4 : zz_S D A s [(x, .inr (6, [.ref tx0, .ref nb, .ref tb, .ref ib, .ref ah, .ref tp, .ref rd, .ref sh, .ref sl, .ref wt, .int 0, .int 0, .int 0, .int 0, .int 0])), (nb, .inr (0, [.ref ntx, .ref nst, .ref nct, .int 0, .int 0, .int 3, .int 0, .int 0, .int 10, .int 0, .int 0, .int 0, .int 0, .int 1])), (nct, .inl (knc, 3, .inl ncf)), (tb, .inr (0, [.ref ttx, .ref tst, .ref tct, .int 0, .int 0, .int 3, .int 0, .int 0, .int 10, .int 0, .int 0, .int 0, .int 0, .int 1])), (tct, .inl (ktc, 3, .inl tcf))] [(knc, .int), (ktc, .int)] H1 locs2 := Z3
  clear Z3
  by_cases w4 : 0 ≤ ww ∧ ww ≤ 9999
  · refine zz_v (v := 1) (zz_wiT w4) ?_
    refine lv_if_eq (tgt := 21) hx hb dX6_wider_8 (by decide) (fun h => absurd h (by decide)) (fun _ => ?_)
    refine lv_iload_n hx hb dX6_wider_11 rfl (lv_at hl 2 rfl) ?_
    refine lv_iconst (v := 1) hx hb dX6_wider_12 (by decide) ?_
    refine lv_bipush (v := 60) hx hb dX6_wider_13 (by decide) ?_
    refine zz_ci (WC := []) (TC := []) (WR := [(x, .inr (6, [.ref tx0, .ref nb, .ref tb, .ref ib, .ref ah, .ref tp, .ref rd, .ref sh, .ref sl, .ref wt, .int 0, .int 0, .int 0, .int 0, .int 0])), (nb, .inr (0, [.ref ntx, .ref nst, .ref nct, .int 0, .int 0, .int 3, .int 0, .int 0, .int 10, .int 0, .int 0, .int 0, .int 0, .int 1])), (nct, .inl (knc, 3, .inl ncf)), (tb, .inr (0, [.ref ttx, .ref tst, .ref tct, .int 0, .int 0, .int 3, .int 0, .int 0, .int 10, .int 0, .int 0, .int 0, .int 0, .int 1])), (tct, .inl (ktc, 3, .inl tcf))]) (TR := [(knc, .int), (ktc, .int)]) (k := 0) (n := 0) Z4 [] [0, 1, 2, 3, 4] [] [0, 1] rfl rfl (by decide +kernel) (by decide +kernel) (by decide +kernel) rfl rfl (fun Zc => va_runS (As := [.int n, .int 1, .int 60]) (rest := []) X (c_within l D n 1 60 H1.size) (va_cwS 3 hts gX6_wider_X6_within rfl rfl rfl zh_X6_within ⟨Nat.le_of_ble_eq_true rfl, Nat.le_of_ble_eq_true rfl⟩) (zz_pS Zc) rfl rfl hl.1 rfl (lv_room (Nat.le_of_ble_eq_true rfl)) dX6_wider_15 ⟨Nat.le_of_ble_eq_true rfl, Nat.le_of_ble_eq_true rfl⟩) rfl rfl (fun r7 u5 H5 locs6 hw6 Z7 => ?_)
    clear Z4
    subst r7
    have Z8 : zz_S D A s [(x, .inr (6, [.ref tx0, .ref nb, .ref tb, .ref ib, .ref ah, .ref tp, .ref rd, .ref sh, .ref sl, .ref wt, .int 0, .int 0, .int 0, .int 0, .int 0])), (nb, .inr (0, [.ref ntx, .ref nst, .ref nct, .int 0, .int 0, .int 3, .int 0, .int 0, .int 10, .int 0, .int 0, .int 0, .int 0, .int 1])), (nct, .inl (knc, 3, .inl ncf)), (tb, .inr (0, [.ref ttx, .ref tst, .ref tct, .int 0, .int 0, .int 3, .int 0, .int 0, .int 10, .int 0, .int 0, .int 0, .int 0, .int 1])), (tct, .inl (ktc, 3, .inl tcf))] [(knc, .int), (ktc, .int)] H5 locs6 := Z7
    clear Z7
    by_cases w8 : 1 ≤ n ∧ n ≤ 60
    · obtain ⟨N, ⟨hN1, hN⟩, eN⟩ := zz_rng1 60 w8 (by decide)
      subst eN
      refine zz_v (v := 1) (zz_wiT w8) ?_
      refine lv_if_ne (tgt := 24) hx hb dX6_wider_18 (by decide) (fun _ => ?_) (fun h => absurd h (by decide))
      refine lv_iconst (v := 1) hx hb dX6_wider_24 (by decide) ?_
      refine lv_istore_n (lv' := [(3, .int 1), (0, .ref x), (1, .int ww), (2, .int (nI N))]) hx hb dX6_wider_25 rfl hl (by decide) rfl (fun ls9 hl10 => ?_)
      clear hl
      refine lv_iload_n hx hb dX6_wider_26 rfl (lv_at hl10 0 rfl) ?_
      refine lv_bipush (v := 6) hx hb dX6_wider_27 (by decide) ?_
      refine lv_icmp_gt (tgt := 75) hx hb dX6_wider_29 (by decide) (fun h => absurd h (by decide)) (fun _ => ?_)
      refine lv_aload_n hx hb dX6_wider_32 rfl (lv_at hl10 1 rfl) ?_
      refine zz_get X Z8 0 rfl rfl (fun w h => List.mem_cons_of_mem _ (List.mem_append_left _ (List.mem_append_left _ (List.mem_append_left _ (List.mem_append_right _ h))))) 2 rfl (zz_m 2 rfl) rfl dX6_wider_33 ?_
      refine lv_aload_n hx hb dX6_wider_36 rfl (lv_at hl10 1 rfl) ?_
      refine zz_get X Z8 0 rfl rfl (fun w h => List.mem_cons_of_mem _ (List.mem_append_left _ (List.mem_append_left _ (List.mem_append_left _ (List.mem_append_right _ h))))) 1 rfl (zz_m 3 rfl) rfl dX6_wider_37 ?_
      refine zz_cv (WC := [(tb, .inr (0, [.ref ttx, .ref tst, .ref tct, .int 0, .int 0, .int 3, .int 0, .int 0, .int 10, .int 0, .int 0, .int 0, .int 0, .int 1])), (tct, .inl (ktc, 3, .inl tcf)), (nb, .inr (0, [.ref ntx, .ref nst, .ref nct, .int 0, .int 0, .int 3, .int 0, .int 0, .int 10, .int 0, .int 0, .int 0, .int 0, .int 1])), (nct, .inl (knc, 3, .inl ncf))]) (TC := [(ktc, .int), (knc, .int)]) (WR := [(x, .inr (6, [.ref tx0, .ref nb, .ref tb, .ref ib, .ref ah, .ref tp, .ref rd, .ref sh, .ref sl, .ref wt, .int 0, .int 0, .int 0, .int 0, .int 0]))]) (TR := []) (k := 0) (n := 0) Z8 [3, 4, 1, 2] [0] [1, 0] [] rfl rfl (by decide +kernel) (by decide +kernel) (by decide +kernel) rfl rfl (fun Zc => va_runV (As := [.ref nb]) (rest := []) X (c_takeOver l D tb ttx tst tct 0 0 3 0 0 10 0 0 0 0 1 ktc tcf nb ntx nst nct 0 3 0 0 10 0 0 0 0 1 knc ncf H5.size) (cwV 1 hts gX6_wider_X0_takeOver rfl rfl rfl ⟨rfl, zh_X0_takeOver⟩ ⟨Nat.le_of_ble_eq_true rfl, Nat.le_of_ble_eq_true rfl⟩) (zz_pV (ci := 0) Zc 0 rfl rfl) rfl rfl hl10.1 rfl (lv_room (Nat.le_of_ble_eq_true rfl)) dX6_wider_40 ⟨Nat.le_of_ble_eq_true rfl, Nat.le_of_ble_eq_true rfl⟩) rfl rfl (fun u9 H11 locs12 hw10 Z13 => ?_)
      clear Z8
      obtain ⟨cf912, rfl⟩ : ∃ z, z = u9 := ⟨_, rfl⟩
      try dsimp only at hw10 Z13
      have Z14 : zz_S D A s [(x, .inr (6, [.ref tx0, .ref nb, .ref tb, .ref ib, .ref ah, .ref tp, .ref rd, .ref sh, .ref sl, .ref wt, .int 0, .int 0, .int 0, .int 0, .int 0])), (tb, .inr (0, [.ref ttx, .ref tst, .ref tct, .int 0, .int 0, .int 3, .int 0, .int 0, .int 10, .int 0, .int 0, .int 0, .int 0, .int 1])), (tct, .inl (ktc, 3, .inl cf912)), (nb, .inr (0, [.ref ntx, .ref nst, .ref nct, .int 0, .int 0, .int 3, .int 0, .int 0, .int 10, .int 0, .int 0, .int 0, .int 0, .int 1])), (nct, .inl (knc, 3, .inl ncf))] [(ktc, .int), (knc, .int)] H11 locs12 := Z13
      clear Z13
      refine lv_aload_n hx hb dX6_wider_43 rfl (lv_at hl10 1 rfl) ?_
      refine zz_get X Z14 0 rfl rfl (fun w h => List.mem_cons_of_mem _ (List.mem_append_left _ (List.mem_append_left _ (List.mem_append_left _ (List.mem_append_right _ h))))) 2 rfl (zz_m 2 rfl) rfl dX6_wider_44 ?_
      refine lv_iload_n hx hb dX6_wider_47 rfl (lv_at hl10 0 rfl) ?_
      refine zz_cv (WC := [(tb, .inr (0, [.ref ttx, .ref tst, .ref tct, .int 0, .int 0, .int 3, .int 0, .int 0, .int 10, .int 0, .int 0, .int 0, .int 0, .int 1]))]) (TC := []) (WR := [(x, .inr (6, [.ref tx0, .ref nb, .ref tb, .ref ib, .ref ah, .ref tp, .ref rd, .ref sh, .ref sl, .ref wt, .int 0, .int 0, .int 0, .int 0, .int 0])), (tct, .inl (ktc, 3, .inl cf912)), (nb, .inr (0, [.ref ntx, .ref nst, .ref nct, .int 0, .int 0, .int 3, .int 0, .int 0, .int 10, .int 0, .int 0, .int 0, .int 0, .int 1])), (nct, .inl (knc, 3, .inl ncf))]) (TR := [(ktc, .int), (knc, .int)]) (k := 0) (n := 0) Z14 [1] [0, 2, 3, 4] [] [0, 1] rfl rfl (by decide +kernel) (by decide +kernel) (by decide +kernel) rfl rfl (fun Zc => va_runV (As := [.int 1]) (rest := []) X (c_widen l D tb ttx tst tct 0 0 3 0 0 10 0 0 0 0 1 1 H11.size) (cwV 1 hts gX6_wider_X0_widen rfl rfl rfl ⟨rfl, zh_X0_widen⟩ ⟨Nat.le_of_ble_eq_true rfl, Nat.le_of_ble_eq_true rfl⟩) (zz_pV (ci := 0) Zc 0 rfl rfl) rfl rfl hl10.1 rfl (lv_room (Nat.le_of_ble_eq_true rfl)) dX6_wider_48 ⟨Nat.le_of_ble_eq_true rfl, Nat.le_of_ble_eq_true rfl⟩) rfl rfl (fun u13 H15 locs16 hw14 Z17 => ?_)
      clear Z14
      have Z18 : zz_S D A s [(x, .inr (6, [.ref tx0, .ref nb, .ref tb, .ref ib, .ref ah, .ref tp, .ref rd, .ref sh, .ref sl, .ref wt, .int 0, .int 0, .int 0, .int 0, .int 0])), (tct, .inl (ktc, 3, .inl cf912)), (nb, .inr (0, [.ref ntx, .ref nst, .ref nct, .int 0, .int 0, .int 3, .int 0, .int 0, .int 10, .int 0, .int 0, .int 0, .int 0, .int 1])), (nct, .inl (knc, 3, .inl ncf)), (tb, .inr (0, [.ref ttx, .ref tst, .ref tct, .int 0, .int 0, .int 1, .int (zz_held 0 0 (12 - 1)), .int 0, .int 10, .int 0, .int 0, .int 0, .int 0, .int 1]))] [(ktc, .int), (knc, .int)] H15 locs16 := Z17
      clear Z17
      refine lv_aload_n hx hb dX6_wider_51 rfl (lv_at hl10 1 rfl) ?_
      refine lv_iload_n hx hb dX6_wider_52 rfl (lv_at hl10 3 rfl) ?_
      refine zz_cv (WC := [(x, .inr (6, [.ref tx0, .ref nb, .ref tb, .ref ib, .ref ah, .ref tp, .ref rd, .ref sh, .ref sl, .ref wt, .int 0, .int 0, .int 0, .int 0, .int 0])), (tb, .inr (0, [.ref ttx, .ref tst, .ref tct, .int 0, .int 0, .int 1, .int (zz_held 0 0 (12 - 1)), .int 0, .int 10, .int 0, .int 0, .int 0, .int 0, .int 1]))]) (TC := []) (WR := [(tct, .inl (ktc, 3, .inl cf912)), (nb, .inr (0, [.ref ntx, .ref nst, .ref nct, .int 0, .int 0, .int 3, .int 0, .int 0, .int 10, .int 0, .int 0, .int 0, .int 0, .int 1])), (nct, .inl (knc, 3, .inl ncf))]) (TR := [(ktc, .int), (knc, .int)]) (k := 0) (n := 0) Z18 [0, 4] [1, 2, 3] [] [0, 1] rfl rfl (by decide +kernel) (by decide +kernel) (by decide +kernel) rfl rfl (fun Zc => va_runV (As := [.int (nI N)]) (rest := []) X (c6_thinkOn l D x tx0 nb tb ib ah tp rd sh sl wt 0 0 0 0 0 ttx tst tct 0 1 (zz_held 0 0 (12 - 1)) 0 10 0 0 0 1 N (by omega) H15.size) (cwV 1 hts gX6_wider_X6_thinkOn rfl rfl rfl ⟨rfl, zh_X6_thinkOn⟩ ⟨Nat.le_of_ble_eq_true rfl, Nat.le_of_ble_eq_true rfl⟩) (zz_pV (ci := 6) Zc 0 rfl rfl) rfl rfl hl10.1 rfl (lv_room (Nat.le_of_ble_eq_true rfl)) dX6_wider_53 ⟨Nat.le_of_ble_eq_true rfl, Nat.le_of_ble_eq_true rfl⟩) rfl rfl (fun u16 H19 locs20 hw17 Z21 => ?_)
      clear Z18
      obtain ⟨f919, t920, z921, h922⟩ := u16
      try dsimp only at hw17 Z21
      have Z22 : zz_S D A s [(tct, .inl (ktc, 3, .inl cf912)), (nb, .inr (0, [.ref ntx, .ref nst, .ref nct, .int 0, .int 0, .int 3, .int 0, .int 0, .int 10, .int 0, .int 0, .int 0, .int 0, .int 1])), (nct, .inl (knc, 3, .inl ncf)), (x, .inr (6, [.ref tx0, .ref nb, .ref tb, .ref ib, .ref ah, .ref tp, .ref rd, .ref sh, .ref sl, .ref wt, .int 0, .int 0, .int 0, .int 0, .int 0])), (tb, .inr (0, [.ref ttx, .ref tst, .ref tct, .int 0, .int 0, .int 1, .int f919, .int h922, .int 10, .int 0, .int 0, .int 0, .int t920, .int z921]))] [(ktc, .int), (knc, .int)] H19 locs20 := Z21
      clear Z21
      refine lv_aload_n hx hb dX6_wider_56 rfl (lv_at hl10 1 rfl) ?_
      refine zz_get X Z22 3 rfl rfl (fun w h => List.mem_cons_of_mem _ (List.mem_append_left _ (List.mem_append_left _ (List.mem_append_left _ (List.mem_append_right _ h))))) 2 rfl (zz_m 2 rfl) rfl dX6_wider_57 ?_
      refine zz_get X Z22 4 rfl rfl (fun w h => List.mem_cons_of_mem _ (List.mem_append_left _ (List.mem_append_left _ (List.mem_append_right _ h)))) 11 rfl (zz_m 4 rfl) rfl dX6_wider_60 ?_
      refine lv_iload_n hx hb dX6_wider_63 rfl (lv_at hl10 2 rfl) ?_
      refine lv_icmp_gt (tgt := 69) hx hb dX6_wider_64 (by decide) (fun h => absurd h (Int32.not_lt.mpr w4.1)) (fun _ => ?_)
      refine lv_iload_n hx hb dX6_wider_67 rfl (lv_at hl10 0 rfl) ?_
      exact zz_iret X hr hlk Z22 () (by simp [sp_wider, w4, w8]) [] [] (by decide +kernel) rfl rfl dX6_wider_68
    · refine zz_v (v := 0) (zz_wiF w8) ?_
      refine lv_if_ne (tgt := 24) hx hb dX6_wider_18 (by decide) (fun h => absurd (by decide) h) (fun _ => ?_)
      refine lv_ldc (v := (-1000000001)) hx hb hown (hts _ (zz_m 1 rfl)) dX6_wider_21 ?_
      exact zz_iret X hr hlk Z8 () (by simp [sp_wider, w4, w8]) [] [] (by decide +kernel) rfl rfl dX6_wider_23
  · refine zz_v (v := 0) (zz_wiF w4) ?_
    refine lv_if_eq (tgt := 21) hx hb dX6_wider_8 (by decide) (fun _ => ?_) (fun h => absurd (by decide) h)
    refine lv_ldc (v := (-1000000001)) hx hb hown (hts _ (zz_m 1 rfl)) dX6_wider_21 ?_
    exact zz_iret X hr hlk Z4 () (by simp [sp_wider, w4]) [] [] (by decide +kernel) rfl rfl dX6_wider_23

set_option maxHeartbeats 4000000 in
set_option maxRecDepth 100000 in
theorem c6_keep (l : Launch) (D : va_G) (x : Nat) (tx0 : Nat) (nb : Nat) (tb : Nat) (ib : Nat) (ah : Nat) (tp : Nat) (rd : Nat) (sh : Nat) (sl : Nat) (wt : Nat) (ntx : Nat) (nst : Nat) (nct : Nat) (knc : ClassId) (ncf : (Nat → Int32)) (itx : Nat) (ist : Nat) (ict : Nat) (kic : ClassId) (icf : (Nat → Int32))  : zz_MI l yX6_keep wsX6_keep 1 22 0 0 D [.ref x] [(x, .inr (6, [.ref tx0, .ref nb, .ref tb, .ref ib, .ref ah, .ref tp, .ref rd, .ref sh, .ref sl, .ref wt, .int 0, .int 0, .int 0, .int 0, .int 0])), (nb, .inr (0, [.ref ntx, .ref nst, .ref nct, .int 0, .int 0, .int 3, .int 0, .int 0, .int 10, .int 0, .int 0, .int 0, .int 0, .int 1])), (nct, .inl (knc, 3, .inl ncf)), (ib, .inr (0, [.ref itx, .ref ist, .ref ict, .int 0, .int 0, .int 3, .int 0, .int 0, .int 10, .int 0, .int 0, .int 0, .int 0, .int 1])), (ict, .inl (kic, 3, .inl icf))] [(knc, .int), (kic, .int)] (fun (r : Int32) (u : Unit) => r = 0) (fun (u : Unit) => []) (fun (u : Unit) => []) := by
  intro sz
  refine Met.ofW (cc := cX6_keep) (maxL := 1) (ret := (some .int)) (by decide) rfl ?_
  intro p e s m args below meth c s₁ B hml hv
  obtain ⟨rfl, hC⟩ := hv
  have hx := B.exec
  have hb := B.bytes
  have hr := B.returns
  have hts := atoms_spec (ws := wsX6_keep) B.pre
  have hown : s.vm.findClass RX6 = some m.cls := findClass_of_methodNamed B.named
  have hlk := B.notSynchronized
  have X : CallFix p m c cX6_keep 1 s _ wsX6_keep RX6 := ⟨hx, hb, hml, hown, hts⟩
  have Z := zz_enter hC
  generalize va_A [(x, .inr (6, [.ref tx0, .ref nb, .ref tb, .ref ib, .ref ah, .ref tp, .ref rd, .ref sh, .ref sl, .ref wt, .int 0, .int 0, .int 0, .int 0, .int 0])), (nb, .inr (0, [.ref ntx, .ref nst, .ref nct, .int 0, .int 0, .int 3, .int 0, .int 0, .int 10, .int 0, .int 0, .int 0, .int 0, .int 1])), (nct, .inl (knc, 3, .inl ncf)), (ib, .inr (0, [.ref itx, .ref ist, .ref ict, .int 0, .int 0, .int 3, .int 0, .int 0, .int 10, .int 0, .int 0, .int 0, .int 0, .int 1])), (ict, .inl (kic, 3, .inl icf))] sz = A at Z ⊢
  have hl := lv_entry ([.ref x]) (n := 1) (Nat.le_of_ble_eq_true rfl)
  rw [lg_entry_eq]
  generalize (lg_sl ([.ref x]) ++ List.replicate (1 - (lg_sl ([.ref x])).length) Slot.unset).toArray = ls at hl ⊢
  have hl : lv_has ls 1 [(0, .ref x)] := hl
  refine lv_aload_n hx hb dX6_keep_0 rfl (lv_at hl 0 rfl) ?_
  refine zz_get X Z 0 rfl rfl (fun w h => List.mem_cons_of_mem _ (List.mem_append_left _ (List.mem_append_left _ (List.mem_append_right _ h)))) 3 rfl (zz_m 1 rfl) rfl dX6_keep_1 ?_
  refine lv_aload_n hx hb dX6_keep_4 rfl (lv_at hl 0 rfl) ?_
  refine zz_get X Z 0 rfl rfl (fun w h => List.mem_cons_of_mem _ (List.mem_append_left _ (List.mem_append_left _ (List.mem_append_right _ h)))) 1 rfl (zz_m 2 rfl) rfl dX6_keep_5 ?_
  refine zz_cv (WC := [(ib, .inr (0, [.ref itx, .ref ist, .ref ict, .int 0, .int 0, .int 3, .int 0, .int 0, .int 10, .int 0, .int 0, .int 0, .int 0, .int 1])), (ict, .inl (kic, 3, .inl icf)), (nb, .inr (0, [.ref ntx, .ref nst, .ref nct, .int 0, .int 0, .int 3, .int 0, .int 0, .int 10, .int 0, .int 0, .int 0, .int 0, .int 1])), (nct, .inl (knc, 3, .inl ncf))]) (TC := [(kic, .int), (knc, .int)]) (WR := [(x, .inr (6, [.ref tx0, .ref nb, .ref tb, .ref ib, .ref ah, .ref tp, .ref rd, .ref sh, .ref sl, .ref wt, .int 0, .int 0, .int 0, .int 0, .int 0]))]) (TR := []) (k := 0) (n := 0) Z [3, 4, 1, 2] [0] [1, 0] [] rfl rfl (by decide +kernel) (by decide +kernel) (by decide +kernel) rfl rfl (fun Zc => va_runV (As := [.ref nb]) (rest := []) X (c_takeOver l D ib itx ist ict 0 0 3 0 0 10 0 0 0 0 1 kic icf nb ntx nst nct 0 3 0 0 10 0 0 0 0 1 knc ncf s.heap.size) (cwV 1 hts gX6_keep_X0_takeOver rfl rfl rfl ⟨rfl, zh_X0_takeOver⟩ ⟨Nat.le_of_ble_eq_true rfl, Nat.le_of_ble_eq_true rfl⟩) (zz_pV (ci := 0) Zc 0 rfl rfl) rfl rfl hl.1 rfl (lv_room (Nat.le_of_ble_eq_true rfl)) dX6_keep_8 ⟨Nat.le_of_ble_eq_true rfl, Nat.le_of_ble_eq_true rfl⟩) rfl rfl (fun u1 H1 locs2 hw2 Z3 => ?_)
  clear Z
  obtain ⟨cf94, rfl⟩ : ∃ z, z = u1 := ⟨_, rfl⟩
  try dsimp only at hw2 Z3
  have Z4 : zz_S D A s [(x, .inr (6, [.ref tx0, .ref nb, .ref tb, .ref ib, .ref ah, .ref tp, .ref rd, .ref sh, .ref sl, .ref wt, .int 0, .int 0, .int 0, .int 0, .int 0])), (ib, .inr (0, [.ref itx, .ref ist, .ref ict, .int 0, .int 0, .int 3, .int 0, .int 0, .int 10, .int 0, .int 0, .int 0, .int 0, .int 1])), (ict, .inl (kic, 3, .inl cf94)), (nb, .inr (0, [.ref ntx, .ref nst, .ref nct, .int 0, .int 0, .int 3, .int 0, .int 0, .int 10, .int 0, .int 0, .int 0, .int 0, .int 1])), (nct, .inl (knc, 3, .inl ncf))] [(kic, .int), (knc, .int)] H1 locs2 := Z3
  clear Z3
  refine lv_aload_n hx hb dX6_keep_11 rfl (lv_at hl 0 rfl) ?_
  refine lv_iconst (v := 1) hx hb dX6_keep_12 (by decide) ?_
  refine zz_put (WS' := [(x, .inr (6, [.ref tx0, .ref nb, .ref tb, .ref ib, .ref ah, .ref tp, .ref rd, .ref sh, .ref sl, .ref wt, .int 0, .int 0, .int 1, .int 0, .int 0])), (ib, .inr (0, [.ref itx, .ref ist, .ref ict, .int 0, .int 0, .int 3, .int 0, .int 0, .int 10, .int 0, .int 0, .int 0, .int 0, .int 1])), (ict, .inl (kic, 3, .inl cf94)), (nb, .inr (0, [.ref ntx, .ref nst, .ref nct, .int 0, .int 0, .int 3, .int 0, .int 0, .int 10, .int 0, .int 0, .int 0, .int 0, .int 1])), (nct, .inl (knc, 3, .inl ncf))]) X Z4 0 rfl rfl (fun w h => List.mem_cons_of_mem _ (List.mem_append_left _ (List.mem_append_left _ (List.mem_append_right _ h)))) tyX6 tyX6_ok nmX6 12 rfl (zz_m 3 rfl) rfl (by decide) (by decide) rfl dX6_keep_13 rfl (fun H5 locs6 Z7 => ?_)
  clear Z4
  refine lv_aload_n hx hb dX6_keep_16 rfl (lv_at hl 0 rfl) ?_
  refine zz_get X Z7 0 rfl rfl (fun w h => List.mem_cons_of_mem _ (List.mem_append_left _ (List.mem_append_left _ (List.mem_append_right _ h)))) 1 rfl (zz_m 2 rfl) rfl dX6_keep_17 ?_
  refine zz_get X Z7 3 rfl rfl (fun w h => List.mem_cons_of_mem _ (List.mem_append_left _ (List.mem_append_right _ h))) 3 rfl (zz_m 4 rfl) rfl dX6_keep_20 ?_
  exact zz_iret X hr hlk Z7 () rfl [] [] (by decide +kernel) rfl rfl dX6_keep_23

set_option maxHeartbeats 4000000 in
set_option maxRecDepth 100000 in
theorem c6_feedBytes0 (l : Launch) (D : va_G) (x : Nat) (tx0 : Nat) (nb : Nat) (tb : Nat) (ib : Nat) (ah : Nat) (tp : Nat) (rd : Nat) (sh : Nat) (sl : Nat) (wt : Nat) (ktp : ClassId) (tpf : (Nat → Int32)) (v : Int32)  : zz_MV l yX6_feedBytes wsX6_feedBytes 0 0 0 0 D [.ref x, .int v] [(x, .inr (6, [.ref tx0, .ref nb, .ref tb, .ref ib, .ref ah, .ref tp, .ref rd, .ref sh, .ref sl, .ref wt, .int 0, .int 0, .int 0, .int 0, .int 0])), (tp, .inl (ktp, 96, .inl tpf))] [(ktp, .int)] (fun (f9 : (Nat → Int32)) => True) (fun (f9 : (Nat → Int32)) => [(x, .inr (6, [.ref tx0, .ref nb, .ref tb, .ref ib, .ref ah, .ref tp, .ref rd, .ref sh, .ref sl, .ref wt, .int 4, .int 0, .int 0, .int 0, .int 0])), (tp, .inl (ktp, 96, .inl f9))]) (fun (f9 : (Nat → Int32)) => [(ktp, .int)]) := by
  intro sz
  refine Met.ofW (cc := cX6_feedBytes) (maxL := 3) (ret := none) (by decide) rfl ?_
  intro p e s m args below meth c s₁ B hml hv
  obtain ⟨rfl, hC⟩ := hv
  have hx := B.exec
  have hb := B.bytes
  have hr := B.returns
  have hts := atoms_spec (ws := wsX6_feedBytes) B.pre
  have hown : s.vm.findClass RX6 = some m.cls := findClass_of_methodNamed B.named
  have hlk := B.notSynchronized
  have X : CallFix p m c cX6_feedBytes 3 s _ wsX6_feedBytes RX6 := ⟨hx, hb, hml, hown, hts⟩
  have Z := zz_enter hC
  generalize va_A [(x, .inr (6, [.ref tx0, .ref nb, .ref tb, .ref ib, .ref ah, .ref tp, .ref rd, .ref sh, .ref sl, .ref wt, .int 0, .int 0, .int 0, .int 0, .int 0])), (tp, .inl (ktp, 96, .inl tpf))] sz = A at Z ⊢
  have hl := lv_entry ([.ref x, .int v]) (n := 3) (Nat.le_of_ble_eq_true rfl)
  rw [lg_entry_eq]
  generalize (lg_sl ([.ref x, .int v]) ++ List.replicate (3 - (lg_sl ([.ref x, .int v])).length) Slot.unset).toArray = ls at hl ⊢
  have hl : lv_has ls 3 [(0, .ref x), (1, .int v)] := hl
  refine lv_bipush (v := 24) hx hb dX6_feedBytes_0 (by decide) ?_
  refine lv_istore_n (lv' := [(2, .int 24), (0, .ref x), (1, .int v)]) hx hb dX6_feedBytes_2 rfl hl (by decide) rfl (fun ls1 hl2 => ?_)
  clear hl
  refine lv_iload_n hx hb dX6_feedBytes_3 rfl (lv_at hl2 0 rfl) ?_
  refine lv_if_lt (tgt := 48) hx hb dX6_feedBytes_4 (by decide) (fun h => absurd h (by decide)) (fun _ => ?_)
  refine lv_aload_n hx hb dX6_feedBytes_7 rfl (lv_at hl2 1 rfl) ?_
  refine zz_get X Z 0 rfl rfl (fun w h => List.mem_cons_of_mem _ (List.mem_append_right _ h)) 10 rfl (zz_m 1 rfl) rfl dX6_feedBytes_8 ?_
  refine lv_bipush (v := 96) hx hb dX6_feedBytes_11 (by decide) ?_
  refine lv_icmp_ge (tgt := 48) hx hb dX6_feedBytes_13 (by decide) (fun h => absurd h (by decide)) (fun _ => ?_)
  refine lv_aload_n hx hb dX6_feedBytes_16 rfl (lv_at hl2 1 rfl) ?_
  refine zz_get X Z 0 rfl rfl (fun w h => List.mem_cons_of_mem _ (List.mem_append_right _ h)) 5 rfl (zz_m 2 rfl) rfl dX6_feedBytes_17 ?_
  refine lv_aload_n hx hb dX6_feedBytes_20 rfl (lv_at hl2 1 rfl) ?_
  refine zz_get X Z 0 rfl rfl (fun w h => List.mem_cons_of_mem _ (List.mem_append_right _ h)) 10 rfl (zz_m 1 rfl) rfl dX6_feedBytes_21 ?_
  refine lv_iload_n hx hb dX6_feedBytes_24 rfl (lv_at hl2 2 rfl) ?_
  refine lv_iload_n hx hb dX6_feedBytes_25 rfl (lv_at hl2 0 rfl) ?_
  refine lv_iushr (v := (Int32.toUInt32 v >>> (Int32.toUInt32 24 &&& Int32.toUInt32 31)).toInt32) hx hb dX6_feedBytes_26 rfl ?_
  refine lv_sipush (v := 255) hx hb dX6_feedBytes_27 (by decide) ?_
  refine lv_iand hx hb dX6_feedBytes_30 ?_
  refine lv_topi (fun y1 ey2 => ?_)
  refine zz_istN (WS' := fun f3 => [(x, .inr (6, [.ref tx0, .ref nb, .ref tb, .ref ib, .ref ah, .ref tp, .ref rd, .ref sh, .ref sl, .ref wt, .int 0, .int 0, .int 0, .int 0, .int 0])), (tp, .inl (ktp, 96, .inl f3))]) X Z 1 0 rfl rfl (zz_in 0 96 rfl) dX6_feedBytes_31 (fun _ => rfl) (fun f3 ef4 H3 locs4 Z5 => ?_)
  clear Z
  refine lv_aload_n hx hb dX6_feedBytes_32 rfl (lv_at hl2 1 rfl) ?_
  refine lv_dup hx hb dX6_feedBytes_33 rfl ?_
  refine zz_get X Z5 0 rfl rfl (fun w h => List.mem_cons_of_mem _ (List.mem_append_right _ h)) 10 rfl (zz_m 1 rfl) rfl dX6_feedBytes_34 ?_
  refine lv_iconst (v := 1) hx hb dX6_feedBytes_37 (by decide) ?_
  refine lv_iadd hx hb dX6_feedBytes_38 ?_
  refine zz_v (v := 1) (by decide) ?_
  refine zz_put (WS' := [(x, .inr (6, [.ref tx0, .ref nb, .ref tb, .ref ib, .ref ah, .ref tp, .ref rd, .ref sh, .ref sl, .ref wt, .int 1, .int 0, .int 0, .int 0, .int 0])), (tp, .inl (ktp, 96, .inl f3))]) X Z5 0 rfl rfl (fun w h => List.mem_cons_of_mem _ (List.mem_append_right _ h)) tyX6 tyX6_ok nmX6 10 rfl (zz_m 1 rfl) rfl rfl rfl rfl dX6_feedBytes_39 rfl (fun H6 locs7 Z8 => ?_)
  clear Z5
  refine lv_iinc (v := 16) (lv' := [(2, .int 16), (0, .ref x), (1, .int v)]) hx hb dX6_feedBytes_42 hl2 (k := 0) rfl (by decide) (by decide) rfl (fun ls9 hl10 => ?_)
  clear hl2
  refine lv_goto (tgt := 3) hx hb dX6_feedBytes_45 (by decide) ?_
  refine lv_iload_n hx hb dX6_feedBytes_3 rfl (lv_at hl10 0 rfl) ?_
  refine lv_if_lt (tgt := 48) hx hb dX6_feedBytes_4 (by decide) (fun h => absurd h (by decide)) (fun _ => ?_)
  refine lv_aload_n hx hb dX6_feedBytes_7 rfl (lv_at hl10 1 rfl) ?_
  refine zz_get X Z8 0 rfl rfl (fun w h => List.mem_cons_of_mem _ (List.mem_append_right _ h)) 10 rfl (zz_m 1 rfl) rfl dX6_feedBytes_8 ?_
  refine lv_bipush (v := 96) hx hb dX6_feedBytes_11 (by decide) ?_
  refine lv_icmp_ge (tgt := 48) hx hb dX6_feedBytes_13 (by decide) (fun h => absurd h (by decide)) (fun _ => ?_)
  refine lv_aload_n hx hb dX6_feedBytes_16 rfl (lv_at hl10 1 rfl) ?_
  refine zz_get X Z8 0 rfl rfl (fun w h => List.mem_cons_of_mem _ (List.mem_append_right _ h)) 5 rfl (zz_m 2 rfl) rfl dX6_feedBytes_17 ?_
  refine lv_aload_n hx hb dX6_feedBytes_20 rfl (lv_at hl10 1 rfl) ?_
  refine zz_get X Z8 0 rfl rfl (fun w h => List.mem_cons_of_mem _ (List.mem_append_right _ h)) 10 rfl (zz_m 1 rfl) rfl dX6_feedBytes_21 ?_
  refine lv_iload_n hx hb dX6_feedBytes_24 rfl (lv_at hl10 2 rfl) ?_
  refine lv_iload_n hx hb dX6_feedBytes_25 rfl (lv_at hl10 0 rfl) ?_
  refine lv_iushr (v := (Int32.toUInt32 v >>> (Int32.toUInt32 16 &&& Int32.toUInt32 31)).toInt32) hx hb dX6_feedBytes_26 rfl ?_
  refine lv_sipush (v := 255) hx hb dX6_feedBytes_27 (by decide) ?_
  refine lv_iand hx hb dX6_feedBytes_30 ?_
  refine lv_topi (fun y5 ey6 => ?_)
  refine zz_istN (WS' := fun f7 => [(x, .inr (6, [.ref tx0, .ref nb, .ref tb, .ref ib, .ref ah, .ref tp, .ref rd, .ref sh, .ref sl, .ref wt, .int 1, .int 0, .int 0, .int 0, .int 0])), (tp, .inl (ktp, 96, .inl f7))]) X Z8 1 0 rfl rfl (zz_in 1 96 rfl) dX6_feedBytes_31 (fun _ => rfl) (fun f7 ef8 H11 locs12 Z13 => ?_)
  clear Z8
  refine lv_aload_n hx hb dX6_feedBytes_32 rfl (lv_at hl10 1 rfl) ?_
  refine lv_dup hx hb dX6_feedBytes_33 rfl ?_
  refine zz_get X Z13 0 rfl rfl (fun w h => List.mem_cons_of_mem _ (List.mem_append_right _ h)) 10 rfl (zz_m 1 rfl) rfl dX6_feedBytes_34 ?_
  refine lv_iconst (v := 1) hx hb dX6_feedBytes_37 (by decide) ?_
  refine lv_iadd hx hb dX6_feedBytes_38 ?_
  refine zz_v (v := 2) (by decide) ?_
  refine zz_put (WS' := [(x, .inr (6, [.ref tx0, .ref nb, .ref tb, .ref ib, .ref ah, .ref tp, .ref rd, .ref sh, .ref sl, .ref wt, .int 2, .int 0, .int 0, .int 0, .int 0])), (tp, .inl (ktp, 96, .inl f7))]) X Z13 0 rfl rfl (fun w h => List.mem_cons_of_mem _ (List.mem_append_right _ h)) tyX6 tyX6_ok nmX6 10 rfl (zz_m 1 rfl) rfl rfl rfl rfl dX6_feedBytes_39 rfl (fun H14 locs15 Z16 => ?_)
  clear Z13
  refine lv_iinc (v := 8) (lv' := [(2, .int 8), (0, .ref x), (1, .int v)]) hx hb dX6_feedBytes_42 hl10 (k := 0) rfl (by decide) (by decide) rfl (fun ls17 hl18 => ?_)
  clear hl10
  refine lv_goto (tgt := 3) hx hb dX6_feedBytes_45 (by decide) ?_
  refine lv_iload_n hx hb dX6_feedBytes_3 rfl (lv_at hl18 0 rfl) ?_
  refine lv_if_lt (tgt := 48) hx hb dX6_feedBytes_4 (by decide) (fun h => absurd h (by decide)) (fun _ => ?_)
  refine lv_aload_n hx hb dX6_feedBytes_7 rfl (lv_at hl18 1 rfl) ?_
  refine zz_get X Z16 0 rfl rfl (fun w h => List.mem_cons_of_mem _ (List.mem_append_right _ h)) 10 rfl (zz_m 1 rfl) rfl dX6_feedBytes_8 ?_
  refine lv_bipush (v := 96) hx hb dX6_feedBytes_11 (by decide) ?_
  refine lv_icmp_ge (tgt := 48) hx hb dX6_feedBytes_13 (by decide) (fun h => absurd h (by decide)) (fun _ => ?_)
  refine lv_aload_n hx hb dX6_feedBytes_16 rfl (lv_at hl18 1 rfl) ?_
  refine zz_get X Z16 0 rfl rfl (fun w h => List.mem_cons_of_mem _ (List.mem_append_right _ h)) 5 rfl (zz_m 2 rfl) rfl dX6_feedBytes_17 ?_
  refine lv_aload_n hx hb dX6_feedBytes_20 rfl (lv_at hl18 1 rfl) ?_
  refine zz_get X Z16 0 rfl rfl (fun w h => List.mem_cons_of_mem _ (List.mem_append_right _ h)) 10 rfl (zz_m 1 rfl) rfl dX6_feedBytes_21 ?_
  refine lv_iload_n hx hb dX6_feedBytes_24 rfl (lv_at hl18 2 rfl) ?_
  refine lv_iload_n hx hb dX6_feedBytes_25 rfl (lv_at hl18 0 rfl) ?_
  refine lv_iushr (v := (Int32.toUInt32 v >>> (Int32.toUInt32 8 &&& Int32.toUInt32 31)).toInt32) hx hb dX6_feedBytes_26 rfl ?_
  refine lv_sipush (v := 255) hx hb dX6_feedBytes_27 (by decide) ?_
  refine lv_iand hx hb dX6_feedBytes_30 ?_
  refine lv_topi (fun y9 ey10 => ?_)
  refine zz_istN (WS' := fun f11 => [(x, .inr (6, [.ref tx0, .ref nb, .ref tb, .ref ib, .ref ah, .ref tp, .ref rd, .ref sh, .ref sl, .ref wt, .int 2, .int 0, .int 0, .int 0, .int 0])), (tp, .inl (ktp, 96, .inl f11))]) X Z16 1 0 rfl rfl (zz_in 2 96 rfl) dX6_feedBytes_31 (fun _ => rfl) (fun f11 ef12 H19 locs20 Z21 => ?_)
  clear Z16
  refine lv_aload_n hx hb dX6_feedBytes_32 rfl (lv_at hl18 1 rfl) ?_
  refine lv_dup hx hb dX6_feedBytes_33 rfl ?_
  refine zz_get X Z21 0 rfl rfl (fun w h => List.mem_cons_of_mem _ (List.mem_append_right _ h)) 10 rfl (zz_m 1 rfl) rfl dX6_feedBytes_34 ?_
  refine lv_iconst (v := 1) hx hb dX6_feedBytes_37 (by decide) ?_
  refine lv_iadd hx hb dX6_feedBytes_38 ?_
  refine zz_v (v := 3) (by decide) ?_
  refine zz_put (WS' := [(x, .inr (6, [.ref tx0, .ref nb, .ref tb, .ref ib, .ref ah, .ref tp, .ref rd, .ref sh, .ref sl, .ref wt, .int 3, .int 0, .int 0, .int 0, .int 0])), (tp, .inl (ktp, 96, .inl f11))]) X Z21 0 rfl rfl (fun w h => List.mem_cons_of_mem _ (List.mem_append_right _ h)) tyX6 tyX6_ok nmX6 10 rfl (zz_m 1 rfl) rfl rfl rfl rfl dX6_feedBytes_39 rfl (fun H22 locs23 Z24 => ?_)
  clear Z21
  refine lv_iinc (v := 0) (lv' := [(2, .int 0), (0, .ref x), (1, .int v)]) hx hb dX6_feedBytes_42 hl18 (k := 0) rfl (by decide) (by decide) rfl (fun ls25 hl26 => ?_)
  clear hl18
  refine lv_goto (tgt := 3) hx hb dX6_feedBytes_45 (by decide) ?_
  refine lv_iload_n hx hb dX6_feedBytes_3 rfl (lv_at hl26 0 rfl) ?_
  refine lv_if_lt (tgt := 48) hx hb dX6_feedBytes_4 (by decide) (fun h => absurd h (by decide)) (fun _ => ?_)
  refine lv_aload_n hx hb dX6_feedBytes_7 rfl (lv_at hl26 1 rfl) ?_
  refine zz_get X Z24 0 rfl rfl (fun w h => List.mem_cons_of_mem _ (List.mem_append_right _ h)) 10 rfl (zz_m 1 rfl) rfl dX6_feedBytes_8 ?_
  refine lv_bipush (v := 96) hx hb dX6_feedBytes_11 (by decide) ?_
  refine lv_icmp_ge (tgt := 48) hx hb dX6_feedBytes_13 (by decide) (fun h => absurd h (by decide)) (fun _ => ?_)
  refine lv_aload_n hx hb dX6_feedBytes_16 rfl (lv_at hl26 1 rfl) ?_
  refine zz_get X Z24 0 rfl rfl (fun w h => List.mem_cons_of_mem _ (List.mem_append_right _ h)) 5 rfl (zz_m 2 rfl) rfl dX6_feedBytes_17 ?_
  refine lv_aload_n hx hb dX6_feedBytes_20 rfl (lv_at hl26 1 rfl) ?_
  refine zz_get X Z24 0 rfl rfl (fun w h => List.mem_cons_of_mem _ (List.mem_append_right _ h)) 10 rfl (zz_m 1 rfl) rfl dX6_feedBytes_21 ?_
  refine lv_iload_n hx hb dX6_feedBytes_24 rfl (lv_at hl26 2 rfl) ?_
  refine lv_iload_n hx hb dX6_feedBytes_25 rfl (lv_at hl26 0 rfl) ?_
  refine lv_iushr (v := (Int32.toUInt32 v >>> (Int32.toUInt32 0 &&& Int32.toUInt32 31)).toInt32) hx hb dX6_feedBytes_26 rfl ?_
  refine lv_sipush (v := 255) hx hb dX6_feedBytes_27 (by decide) ?_
  refine lv_iand hx hb dX6_feedBytes_30 ?_
  refine lv_topi (fun y13 ey14 => ?_)
  refine zz_istN (WS' := fun f15 => [(x, .inr (6, [.ref tx0, .ref nb, .ref tb, .ref ib, .ref ah, .ref tp, .ref rd, .ref sh, .ref sl, .ref wt, .int 3, .int 0, .int 0, .int 0, .int 0])), (tp, .inl (ktp, 96, .inl f15))]) X Z24 1 0 rfl rfl (zz_in 3 96 rfl) dX6_feedBytes_31 (fun _ => rfl) (fun f15 ef16 H27 locs28 Z29 => ?_)
  clear Z24
  refine lv_aload_n hx hb dX6_feedBytes_32 rfl (lv_at hl26 1 rfl) ?_
  refine lv_dup hx hb dX6_feedBytes_33 rfl ?_
  refine zz_get X Z29 0 rfl rfl (fun w h => List.mem_cons_of_mem _ (List.mem_append_right _ h)) 10 rfl (zz_m 1 rfl) rfl dX6_feedBytes_34 ?_
  refine lv_iconst (v := 1) hx hb dX6_feedBytes_37 (by decide) ?_
  refine lv_iadd hx hb dX6_feedBytes_38 ?_
  refine zz_v (v := 4) (by decide) ?_
  refine zz_put (WS' := [(x, .inr (6, [.ref tx0, .ref nb, .ref tb, .ref ib, .ref ah, .ref tp, .ref rd, .ref sh, .ref sl, .ref wt, .int 4, .int 0, .int 0, .int 0, .int 0])), (tp, .inl (ktp, 96, .inl f15))]) X Z29 0 rfl rfl (fun w h => List.mem_cons_of_mem _ (List.mem_append_right _ h)) tyX6 tyX6_ok nmX6 10 rfl (zz_m 1 rfl) rfl rfl rfl rfl dX6_feedBytes_39 rfl (fun H30 locs31 Z32 => ?_)
  clear Z29
  refine lv_iinc (v := (-8)) (lv' := [(2, .int (-8)), (0, .ref x), (1, .int v)]) hx hb dX6_feedBytes_42 hl26 (k := 0) rfl (by decide) (by decide) rfl (fun ls33 hl34 => ?_)
  clear hl26
  refine lv_goto (tgt := 3) hx hb dX6_feedBytes_45 (by decide) ?_
  refine lv_iload_n hx hb dX6_feedBytes_3 rfl (lv_at hl34 0 rfl) ?_
  refine lv_if_lt (tgt := 48) hx hb dX6_feedBytes_4 (by decide) (fun _ => ?_) (fun h => absurd (by decide) h)
  exact zz_vret X hr hlk Z32 (f15) trivial [0, 1] [0] (by decide +kernel) rfl rfl dX6_feedBytes_48

set_option maxHeartbeats 4000000 in
set_option maxRecDepth 100000 in
theorem c6_feedBytes4 (l : Launch) (D : va_G) (x : Nat) (tx0 : Nat) (nb : Nat) (tb : Nat) (ib : Nat) (ah : Nat) (tp : Nat) (rd : Nat) (sh : Nat) (sl : Nat) (wt : Nat) (ktp : ClassId) (tpf : (Nat → Int32)) (v : Int32)  : zz_MV l yX6_feedBytes wsX6_feedBytes 0 0 0 0 D [.ref x, .int v] [(x, .inr (6, [.ref tx0, .ref nb, .ref tb, .ref ib, .ref ah, .ref tp, .ref rd, .ref sh, .ref sl, .ref wt, .int 4, .int 0, .int 0, .int 0, .int 0])), (tp, .inl (ktp, 96, .inl tpf))] [(ktp, .int)] (fun (f9 : (Nat → Int32)) => True) (fun (f9 : (Nat → Int32)) => [(x, .inr (6, [.ref tx0, .ref nb, .ref tb, .ref ib, .ref ah, .ref tp, .ref rd, .ref sh, .ref sl, .ref wt, .int 8, .int 0, .int 0, .int 0, .int 0])), (tp, .inl (ktp, 96, .inl f9))]) (fun (f9 : (Nat → Int32)) => [(ktp, .int)]) := by
  intro sz
  refine Met.ofW (cc := cX6_feedBytes) (maxL := 3) (ret := none) (by decide) rfl ?_
  intro p e s m args below meth c s₁ B hml hv
  obtain ⟨rfl, hC⟩ := hv
  have hx := B.exec
  have hb := B.bytes
  have hr := B.returns
  have hts := atoms_spec (ws := wsX6_feedBytes) B.pre
  have hown : s.vm.findClass RX6 = some m.cls := findClass_of_methodNamed B.named
  have hlk := B.notSynchronized
  have X : CallFix p m c cX6_feedBytes 3 s _ wsX6_feedBytes RX6 := ⟨hx, hb, hml, hown, hts⟩
  have Z := zz_enter hC
  generalize va_A [(x, .inr (6, [.ref tx0, .ref nb, .ref tb, .ref ib, .ref ah, .ref tp, .ref rd, .ref sh, .ref sl, .ref wt, .int 4, .int 0, .int 0, .int 0, .int 0])), (tp, .inl (ktp, 96, .inl tpf))] sz = A at Z ⊢
  have hl := lv_entry ([.ref x, .int v]) (n := 3) (Nat.le_of_ble_eq_true rfl)
  rw [lg_entry_eq]
  generalize (lg_sl ([.ref x, .int v]) ++ List.replicate (3 - (lg_sl ([.ref x, .int v])).length) Slot.unset).toArray = ls at hl ⊢
  have hl : lv_has ls 3 [(0, .ref x), (1, .int v)] := hl
  refine lv_bipush (v := 24) hx hb dX6_feedBytes_0 (by decide) ?_
  refine lv_istore_n (lv' := [(2, .int 24), (0, .ref x), (1, .int v)]) hx hb dX6_feedBytes_2 rfl hl (by decide) rfl (fun ls1 hl2 => ?_)
  clear hl
  refine lv_iload_n hx hb dX6_feedBytes_3 rfl (lv_at hl2 0 rfl) ?_
  refine lv_if_lt (tgt := 48) hx hb dX6_feedBytes_4 (by decide) (fun h => absurd h (by decide)) (fun _ => ?_)
  refine lv_aload_n hx hb dX6_feedBytes_7 rfl (lv_at hl2 1 rfl) ?_
  refine zz_get X Z 0 rfl rfl (fun w h => List.mem_cons_of_mem _ (List.mem_append_right _ h)) 10 rfl (zz_m 1 rfl) rfl dX6_feedBytes_8 ?_
  refine lv_bipush (v := 96) hx hb dX6_feedBytes_11 (by decide) ?_
  refine lv_icmp_ge (tgt := 48) hx hb dX6_feedBytes_13 (by decide) (fun h => absurd h (by decide)) (fun _ => ?_)
  refine lv_aload_n hx hb dX6_feedBytes_16 rfl (lv_at hl2 1 rfl) ?_
  refine zz_get X Z 0 rfl rfl (fun w h => List.mem_cons_of_mem _ (List.mem_append_right _ h)) 5 rfl (zz_m 2 rfl) rfl dX6_feedBytes_17 ?_
  refine lv_aload_n hx hb dX6_feedBytes_20 rfl (lv_at hl2 1 rfl) ?_
  refine zz_get X Z 0 rfl rfl (fun w h => List.mem_cons_of_mem _ (List.mem_append_right _ h)) 10 rfl (zz_m 1 rfl) rfl dX6_feedBytes_21 ?_
  refine lv_iload_n hx hb dX6_feedBytes_24 rfl (lv_at hl2 2 rfl) ?_
  refine lv_iload_n hx hb dX6_feedBytes_25 rfl (lv_at hl2 0 rfl) ?_
  refine lv_iushr (v := (Int32.toUInt32 v >>> (Int32.toUInt32 24 &&& Int32.toUInt32 31)).toInt32) hx hb dX6_feedBytes_26 rfl ?_
  refine lv_sipush (v := 255) hx hb dX6_feedBytes_27 (by decide) ?_
  refine lv_iand hx hb dX6_feedBytes_30 ?_
  refine lv_topi (fun y1 ey2 => ?_)
  refine zz_istN (WS' := fun f3 => [(x, .inr (6, [.ref tx0, .ref nb, .ref tb, .ref ib, .ref ah, .ref tp, .ref rd, .ref sh, .ref sl, .ref wt, .int 4, .int 0, .int 0, .int 0, .int 0])), (tp, .inl (ktp, 96, .inl f3))]) X Z 1 0 rfl rfl (zz_in 4 96 rfl) dX6_feedBytes_31 (fun _ => rfl) (fun f3 ef4 H3 locs4 Z5 => ?_)
  clear Z
  refine lv_aload_n hx hb dX6_feedBytes_32 rfl (lv_at hl2 1 rfl) ?_
  refine lv_dup hx hb dX6_feedBytes_33 rfl ?_
  refine zz_get X Z5 0 rfl rfl (fun w h => List.mem_cons_of_mem _ (List.mem_append_right _ h)) 10 rfl (zz_m 1 rfl) rfl dX6_feedBytes_34 ?_
  refine lv_iconst (v := 1) hx hb dX6_feedBytes_37 (by decide) ?_
  refine lv_iadd hx hb dX6_feedBytes_38 ?_
  refine zz_v (v := 5) (by decide) ?_
  refine zz_put (WS' := [(x, .inr (6, [.ref tx0, .ref nb, .ref tb, .ref ib, .ref ah, .ref tp, .ref rd, .ref sh, .ref sl, .ref wt, .int 5, .int 0, .int 0, .int 0, .int 0])), (tp, .inl (ktp, 96, .inl f3))]) X Z5 0 rfl rfl (fun w h => List.mem_cons_of_mem _ (List.mem_append_right _ h)) tyX6 tyX6_ok nmX6 10 rfl (zz_m 1 rfl) rfl rfl rfl rfl dX6_feedBytes_39 rfl (fun H6 locs7 Z8 => ?_)
  clear Z5
  refine lv_iinc (v := 16) (lv' := [(2, .int 16), (0, .ref x), (1, .int v)]) hx hb dX6_feedBytes_42 hl2 (k := 0) rfl (by decide) (by decide) rfl (fun ls9 hl10 => ?_)
  clear hl2
  refine lv_goto (tgt := 3) hx hb dX6_feedBytes_45 (by decide) ?_
  refine lv_iload_n hx hb dX6_feedBytes_3 rfl (lv_at hl10 0 rfl) ?_
  refine lv_if_lt (tgt := 48) hx hb dX6_feedBytes_4 (by decide) (fun h => absurd h (by decide)) (fun _ => ?_)
  refine lv_aload_n hx hb dX6_feedBytes_7 rfl (lv_at hl10 1 rfl) ?_
  refine zz_get X Z8 0 rfl rfl (fun w h => List.mem_cons_of_mem _ (List.mem_append_right _ h)) 10 rfl (zz_m 1 rfl) rfl dX6_feedBytes_8 ?_
  refine lv_bipush (v := 96) hx hb dX6_feedBytes_11 (by decide) ?_
  refine lv_icmp_ge (tgt := 48) hx hb dX6_feedBytes_13 (by decide) (fun h => absurd h (by decide)) (fun _ => ?_)
  refine lv_aload_n hx hb dX6_feedBytes_16 rfl (lv_at hl10 1 rfl) ?_
  refine zz_get X Z8 0 rfl rfl (fun w h => List.mem_cons_of_mem _ (List.mem_append_right _ h)) 5 rfl (zz_m 2 rfl) rfl dX6_feedBytes_17 ?_
  refine lv_aload_n hx hb dX6_feedBytes_20 rfl (lv_at hl10 1 rfl) ?_
  refine zz_get X Z8 0 rfl rfl (fun w h => List.mem_cons_of_mem _ (List.mem_append_right _ h)) 10 rfl (zz_m 1 rfl) rfl dX6_feedBytes_21 ?_
  refine lv_iload_n hx hb dX6_feedBytes_24 rfl (lv_at hl10 2 rfl) ?_
  refine lv_iload_n hx hb dX6_feedBytes_25 rfl (lv_at hl10 0 rfl) ?_
  refine lv_iushr (v := (Int32.toUInt32 v >>> (Int32.toUInt32 16 &&& Int32.toUInt32 31)).toInt32) hx hb dX6_feedBytes_26 rfl ?_
  refine lv_sipush (v := 255) hx hb dX6_feedBytes_27 (by decide) ?_
  refine lv_iand hx hb dX6_feedBytes_30 ?_
  refine lv_topi (fun y5 ey6 => ?_)
  refine zz_istN (WS' := fun f7 => [(x, .inr (6, [.ref tx0, .ref nb, .ref tb, .ref ib, .ref ah, .ref tp, .ref rd, .ref sh, .ref sl, .ref wt, .int 5, .int 0, .int 0, .int 0, .int 0])), (tp, .inl (ktp, 96, .inl f7))]) X Z8 1 0 rfl rfl (zz_in 5 96 rfl) dX6_feedBytes_31 (fun _ => rfl) (fun f7 ef8 H11 locs12 Z13 => ?_)
  clear Z8
  refine lv_aload_n hx hb dX6_feedBytes_32 rfl (lv_at hl10 1 rfl) ?_
  refine lv_dup hx hb dX6_feedBytes_33 rfl ?_
  refine zz_get X Z13 0 rfl rfl (fun w h => List.mem_cons_of_mem _ (List.mem_append_right _ h)) 10 rfl (zz_m 1 rfl) rfl dX6_feedBytes_34 ?_
  refine lv_iconst (v := 1) hx hb dX6_feedBytes_37 (by decide) ?_
  refine lv_iadd hx hb dX6_feedBytes_38 ?_
  refine zz_v (v := 6) (by decide) ?_
  refine zz_put (WS' := [(x, .inr (6, [.ref tx0, .ref nb, .ref tb, .ref ib, .ref ah, .ref tp, .ref rd, .ref sh, .ref sl, .ref wt, .int 6, .int 0, .int 0, .int 0, .int 0])), (tp, .inl (ktp, 96, .inl f7))]) X Z13 0 rfl rfl (fun w h => List.mem_cons_of_mem _ (List.mem_append_right _ h)) tyX6 tyX6_ok nmX6 10 rfl (zz_m 1 rfl) rfl rfl rfl rfl dX6_feedBytes_39 rfl (fun H14 locs15 Z16 => ?_)
  clear Z13
  refine lv_iinc (v := 8) (lv' := [(2, .int 8), (0, .ref x), (1, .int v)]) hx hb dX6_feedBytes_42 hl10 (k := 0) rfl (by decide) (by decide) rfl (fun ls17 hl18 => ?_)
  clear hl10
  refine lv_goto (tgt := 3) hx hb dX6_feedBytes_45 (by decide) ?_
  refine lv_iload_n hx hb dX6_feedBytes_3 rfl (lv_at hl18 0 rfl) ?_
  refine lv_if_lt (tgt := 48) hx hb dX6_feedBytes_4 (by decide) (fun h => absurd h (by decide)) (fun _ => ?_)
  refine lv_aload_n hx hb dX6_feedBytes_7 rfl (lv_at hl18 1 rfl) ?_
  refine zz_get X Z16 0 rfl rfl (fun w h => List.mem_cons_of_mem _ (List.mem_append_right _ h)) 10 rfl (zz_m 1 rfl) rfl dX6_feedBytes_8 ?_
  refine lv_bipush (v := 96) hx hb dX6_feedBytes_11 (by decide) ?_
  refine lv_icmp_ge (tgt := 48) hx hb dX6_feedBytes_13 (by decide) (fun h => absurd h (by decide)) (fun _ => ?_)
  refine lv_aload_n hx hb dX6_feedBytes_16 rfl (lv_at hl18 1 rfl) ?_
  refine zz_get X Z16 0 rfl rfl (fun w h => List.mem_cons_of_mem _ (List.mem_append_right _ h)) 5 rfl (zz_m 2 rfl) rfl dX6_feedBytes_17 ?_
  refine lv_aload_n hx hb dX6_feedBytes_20 rfl (lv_at hl18 1 rfl) ?_
  refine zz_get X Z16 0 rfl rfl (fun w h => List.mem_cons_of_mem _ (List.mem_append_right _ h)) 10 rfl (zz_m 1 rfl) rfl dX6_feedBytes_21 ?_
  refine lv_iload_n hx hb dX6_feedBytes_24 rfl (lv_at hl18 2 rfl) ?_
  refine lv_iload_n hx hb dX6_feedBytes_25 rfl (lv_at hl18 0 rfl) ?_
  refine lv_iushr (v := (Int32.toUInt32 v >>> (Int32.toUInt32 8 &&& Int32.toUInt32 31)).toInt32) hx hb dX6_feedBytes_26 rfl ?_
  refine lv_sipush (v := 255) hx hb dX6_feedBytes_27 (by decide) ?_
  refine lv_iand hx hb dX6_feedBytes_30 ?_
  refine lv_topi (fun y9 ey10 => ?_)
  refine zz_istN (WS' := fun f11 => [(x, .inr (6, [.ref tx0, .ref nb, .ref tb, .ref ib, .ref ah, .ref tp, .ref rd, .ref sh, .ref sl, .ref wt, .int 6, .int 0, .int 0, .int 0, .int 0])), (tp, .inl (ktp, 96, .inl f11))]) X Z16 1 0 rfl rfl (zz_in 6 96 rfl) dX6_feedBytes_31 (fun _ => rfl) (fun f11 ef12 H19 locs20 Z21 => ?_)
  clear Z16
  refine lv_aload_n hx hb dX6_feedBytes_32 rfl (lv_at hl18 1 rfl) ?_
  refine lv_dup hx hb dX6_feedBytes_33 rfl ?_
  refine zz_get X Z21 0 rfl rfl (fun w h => List.mem_cons_of_mem _ (List.mem_append_right _ h)) 10 rfl (zz_m 1 rfl) rfl dX6_feedBytes_34 ?_
  refine lv_iconst (v := 1) hx hb dX6_feedBytes_37 (by decide) ?_
  refine lv_iadd hx hb dX6_feedBytes_38 ?_
  refine zz_v (v := 7) (by decide) ?_
  refine zz_put (WS' := [(x, .inr (6, [.ref tx0, .ref nb, .ref tb, .ref ib, .ref ah, .ref tp, .ref rd, .ref sh, .ref sl, .ref wt, .int 7, .int 0, .int 0, .int 0, .int 0])), (tp, .inl (ktp, 96, .inl f11))]) X Z21 0 rfl rfl (fun w h => List.mem_cons_of_mem _ (List.mem_append_right _ h)) tyX6 tyX6_ok nmX6 10 rfl (zz_m 1 rfl) rfl rfl rfl rfl dX6_feedBytes_39 rfl (fun H22 locs23 Z24 => ?_)
  clear Z21
  refine lv_iinc (v := 0) (lv' := [(2, .int 0), (0, .ref x), (1, .int v)]) hx hb dX6_feedBytes_42 hl18 (k := 0) rfl (by decide) (by decide) rfl (fun ls25 hl26 => ?_)
  clear hl18
  refine lv_goto (tgt := 3) hx hb dX6_feedBytes_45 (by decide) ?_
  refine lv_iload_n hx hb dX6_feedBytes_3 rfl (lv_at hl26 0 rfl) ?_
  refine lv_if_lt (tgt := 48) hx hb dX6_feedBytes_4 (by decide) (fun h => absurd h (by decide)) (fun _ => ?_)
  refine lv_aload_n hx hb dX6_feedBytes_7 rfl (lv_at hl26 1 rfl) ?_
  refine zz_get X Z24 0 rfl rfl (fun w h => List.mem_cons_of_mem _ (List.mem_append_right _ h)) 10 rfl (zz_m 1 rfl) rfl dX6_feedBytes_8 ?_
  refine lv_bipush (v := 96) hx hb dX6_feedBytes_11 (by decide) ?_
  refine lv_icmp_ge (tgt := 48) hx hb dX6_feedBytes_13 (by decide) (fun h => absurd h (by decide)) (fun _ => ?_)
  refine lv_aload_n hx hb dX6_feedBytes_16 rfl (lv_at hl26 1 rfl) ?_
  refine zz_get X Z24 0 rfl rfl (fun w h => List.mem_cons_of_mem _ (List.mem_append_right _ h)) 5 rfl (zz_m 2 rfl) rfl dX6_feedBytes_17 ?_
  refine lv_aload_n hx hb dX6_feedBytes_20 rfl (lv_at hl26 1 rfl) ?_
  refine zz_get X Z24 0 rfl rfl (fun w h => List.mem_cons_of_mem _ (List.mem_append_right _ h)) 10 rfl (zz_m 1 rfl) rfl dX6_feedBytes_21 ?_
  refine lv_iload_n hx hb dX6_feedBytes_24 rfl (lv_at hl26 2 rfl) ?_
  refine lv_iload_n hx hb dX6_feedBytes_25 rfl (lv_at hl26 0 rfl) ?_
  refine lv_iushr (v := (Int32.toUInt32 v >>> (Int32.toUInt32 0 &&& Int32.toUInt32 31)).toInt32) hx hb dX6_feedBytes_26 rfl ?_
  refine lv_sipush (v := 255) hx hb dX6_feedBytes_27 (by decide) ?_
  refine lv_iand hx hb dX6_feedBytes_30 ?_
  refine lv_topi (fun y13 ey14 => ?_)
  refine zz_istN (WS' := fun f15 => [(x, .inr (6, [.ref tx0, .ref nb, .ref tb, .ref ib, .ref ah, .ref tp, .ref rd, .ref sh, .ref sl, .ref wt, .int 7, .int 0, .int 0, .int 0, .int 0])), (tp, .inl (ktp, 96, .inl f15))]) X Z24 1 0 rfl rfl (zz_in 7 96 rfl) dX6_feedBytes_31 (fun _ => rfl) (fun f15 ef16 H27 locs28 Z29 => ?_)
  clear Z24
  refine lv_aload_n hx hb dX6_feedBytes_32 rfl (lv_at hl26 1 rfl) ?_
  refine lv_dup hx hb dX6_feedBytes_33 rfl ?_
  refine zz_get X Z29 0 rfl rfl (fun w h => List.mem_cons_of_mem _ (List.mem_append_right _ h)) 10 rfl (zz_m 1 rfl) rfl dX6_feedBytes_34 ?_
  refine lv_iconst (v := 1) hx hb dX6_feedBytes_37 (by decide) ?_
  refine lv_iadd hx hb dX6_feedBytes_38 ?_
  refine zz_v (v := 8) (by decide) ?_
  refine zz_put (WS' := [(x, .inr (6, [.ref tx0, .ref nb, .ref tb, .ref ib, .ref ah, .ref tp, .ref rd, .ref sh, .ref sl, .ref wt, .int 8, .int 0, .int 0, .int 0, .int 0])), (tp, .inl (ktp, 96, .inl f15))]) X Z29 0 rfl rfl (fun w h => List.mem_cons_of_mem _ (List.mem_append_right _ h)) tyX6 tyX6_ok nmX6 10 rfl (zz_m 1 rfl) rfl rfl rfl rfl dX6_feedBytes_39 rfl (fun H30 locs31 Z32 => ?_)
  clear Z29
  refine lv_iinc (v := (-8)) (lv' := [(2, .int (-8)), (0, .ref x), (1, .int v)]) hx hb dX6_feedBytes_42 hl26 (k := 0) rfl (by decide) (by decide) rfl (fun ls33 hl34 => ?_)
  clear hl26
  refine lv_goto (tgt := 3) hx hb dX6_feedBytes_45 (by decide) ?_
  refine lv_iload_n hx hb dX6_feedBytes_3 rfl (lv_at hl34 0 rfl) ?_
  refine lv_if_lt (tgt := 48) hx hb dX6_feedBytes_4 (by decide) (fun _ => ?_) (fun h => absurd (by decide) h)
  exact zz_vret X hr hlk Z32 (f15) trivial [0, 1] [0] (by decide +kernel) rfl rfl dX6_feedBytes_48

set_option maxHeartbeats 4000000 in
set_option maxRecDepth 100000 in
theorem c6_feedBytes8 (l : Launch) (D : va_G) (x : Nat) (tx0 : Nat) (nb : Nat) (tb : Nat) (ib : Nat) (ah : Nat) (tp : Nat) (rd : Nat) (sh : Nat) (sl : Nat) (wt : Nat) (ktp : ClassId) (tpf : (Nat → Int32)) (v : Int32)  : zz_MV l yX6_feedBytes wsX6_feedBytes 0 0 0 0 D [.ref x, .int v] [(x, .inr (6, [.ref tx0, .ref nb, .ref tb, .ref ib, .ref ah, .ref tp, .ref rd, .ref sh, .ref sl, .ref wt, .int 8, .int 0, .int 0, .int 0, .int 0])), (tp, .inl (ktp, 96, .inl tpf))] [(ktp, .int)] (fun (f9 : (Nat → Int32)) => True) (fun (f9 : (Nat → Int32)) => [(x, .inr (6, [.ref tx0, .ref nb, .ref tb, .ref ib, .ref ah, .ref tp, .ref rd, .ref sh, .ref sl, .ref wt, .int 12, .int 0, .int 0, .int 0, .int 0])), (tp, .inl (ktp, 96, .inl f9))]) (fun (f9 : (Nat → Int32)) => [(ktp, .int)]) := by
  intro sz
  refine Met.ofW (cc := cX6_feedBytes) (maxL := 3) (ret := none) (by decide) rfl ?_
  intro p e s m args below meth c s₁ B hml hv
  obtain ⟨rfl, hC⟩ := hv
  have hx := B.exec
  have hb := B.bytes
  have hr := B.returns
  have hts := atoms_spec (ws := wsX6_feedBytes) B.pre
  have hown : s.vm.findClass RX6 = some m.cls := findClass_of_methodNamed B.named
  have hlk := B.notSynchronized
  have X : CallFix p m c cX6_feedBytes 3 s _ wsX6_feedBytes RX6 := ⟨hx, hb, hml, hown, hts⟩
  have Z := zz_enter hC
  generalize va_A [(x, .inr (6, [.ref tx0, .ref nb, .ref tb, .ref ib, .ref ah, .ref tp, .ref rd, .ref sh, .ref sl, .ref wt, .int 8, .int 0, .int 0, .int 0, .int 0])), (tp, .inl (ktp, 96, .inl tpf))] sz = A at Z ⊢
  have hl := lv_entry ([.ref x, .int v]) (n := 3) (Nat.le_of_ble_eq_true rfl)
  rw [lg_entry_eq]
  generalize (lg_sl ([.ref x, .int v]) ++ List.replicate (3 - (lg_sl ([.ref x, .int v])).length) Slot.unset).toArray = ls at hl ⊢
  have hl : lv_has ls 3 [(0, .ref x), (1, .int v)] := hl
  refine lv_bipush (v := 24) hx hb dX6_feedBytes_0 (by decide) ?_
  refine lv_istore_n (lv' := [(2, .int 24), (0, .ref x), (1, .int v)]) hx hb dX6_feedBytes_2 rfl hl (by decide) rfl (fun ls1 hl2 => ?_)
  clear hl
  refine lv_iload_n hx hb dX6_feedBytes_3 rfl (lv_at hl2 0 rfl) ?_
  refine lv_if_lt (tgt := 48) hx hb dX6_feedBytes_4 (by decide) (fun h => absurd h (by decide)) (fun _ => ?_)
  refine lv_aload_n hx hb dX6_feedBytes_7 rfl (lv_at hl2 1 rfl) ?_
  refine zz_get X Z 0 rfl rfl (fun w h => List.mem_cons_of_mem _ (List.mem_append_right _ h)) 10 rfl (zz_m 1 rfl) rfl dX6_feedBytes_8 ?_
  refine lv_bipush (v := 96) hx hb dX6_feedBytes_11 (by decide) ?_
  refine lv_icmp_ge (tgt := 48) hx hb dX6_feedBytes_13 (by decide) (fun h => absurd h (by decide)) (fun _ => ?_)
  refine lv_aload_n hx hb dX6_feedBytes_16 rfl (lv_at hl2 1 rfl) ?_
  refine zz_get X Z 0 rfl rfl (fun w h => List.mem_cons_of_mem _ (List.mem_append_right _ h)) 5 rfl (zz_m 2 rfl) rfl dX6_feedBytes_17 ?_
  refine lv_aload_n hx hb dX6_feedBytes_20 rfl (lv_at hl2 1 rfl) ?_
  refine zz_get X Z 0 rfl rfl (fun w h => List.mem_cons_of_mem _ (List.mem_append_right _ h)) 10 rfl (zz_m 1 rfl) rfl dX6_feedBytes_21 ?_
  refine lv_iload_n hx hb dX6_feedBytes_24 rfl (lv_at hl2 2 rfl) ?_
  refine lv_iload_n hx hb dX6_feedBytes_25 rfl (lv_at hl2 0 rfl) ?_
  refine lv_iushr (v := (Int32.toUInt32 v >>> (Int32.toUInt32 24 &&& Int32.toUInt32 31)).toInt32) hx hb dX6_feedBytes_26 rfl ?_
  refine lv_sipush (v := 255) hx hb dX6_feedBytes_27 (by decide) ?_
  refine lv_iand hx hb dX6_feedBytes_30 ?_
  refine lv_topi (fun y1 ey2 => ?_)
  refine zz_istN (WS' := fun f3 => [(x, .inr (6, [.ref tx0, .ref nb, .ref tb, .ref ib, .ref ah, .ref tp, .ref rd, .ref sh, .ref sl, .ref wt, .int 8, .int 0, .int 0, .int 0, .int 0])), (tp, .inl (ktp, 96, .inl f3))]) X Z 1 0 rfl rfl (zz_in 8 96 rfl) dX6_feedBytes_31 (fun _ => rfl) (fun f3 ef4 H3 locs4 Z5 => ?_)
  clear Z
  refine lv_aload_n hx hb dX6_feedBytes_32 rfl (lv_at hl2 1 rfl) ?_
  refine lv_dup hx hb dX6_feedBytes_33 rfl ?_
  refine zz_get X Z5 0 rfl rfl (fun w h => List.mem_cons_of_mem _ (List.mem_append_right _ h)) 10 rfl (zz_m 1 rfl) rfl dX6_feedBytes_34 ?_
  refine lv_iconst (v := 1) hx hb dX6_feedBytes_37 (by decide) ?_
  refine lv_iadd hx hb dX6_feedBytes_38 ?_
  refine zz_v (v := 9) (by decide) ?_
  refine zz_put (WS' := [(x, .inr (6, [.ref tx0, .ref nb, .ref tb, .ref ib, .ref ah, .ref tp, .ref rd, .ref sh, .ref sl, .ref wt, .int 9, .int 0, .int 0, .int 0, .int 0])), (tp, .inl (ktp, 96, .inl f3))]) X Z5 0 rfl rfl (fun w h => List.mem_cons_of_mem _ (List.mem_append_right _ h)) tyX6 tyX6_ok nmX6 10 rfl (zz_m 1 rfl) rfl rfl rfl rfl dX6_feedBytes_39 rfl (fun H6 locs7 Z8 => ?_)
  clear Z5
  refine lv_iinc (v := 16) (lv' := [(2, .int 16), (0, .ref x), (1, .int v)]) hx hb dX6_feedBytes_42 hl2 (k := 0) rfl (by decide) (by decide) rfl (fun ls9 hl10 => ?_)
  clear hl2
  refine lv_goto (tgt := 3) hx hb dX6_feedBytes_45 (by decide) ?_
  refine lv_iload_n hx hb dX6_feedBytes_3 rfl (lv_at hl10 0 rfl) ?_
  refine lv_if_lt (tgt := 48) hx hb dX6_feedBytes_4 (by decide) (fun h => absurd h (by decide)) (fun _ => ?_)
  refine lv_aload_n hx hb dX6_feedBytes_7 rfl (lv_at hl10 1 rfl) ?_
  refine zz_get X Z8 0 rfl rfl (fun w h => List.mem_cons_of_mem _ (List.mem_append_right _ h)) 10 rfl (zz_m 1 rfl) rfl dX6_feedBytes_8 ?_
  refine lv_bipush (v := 96) hx hb dX6_feedBytes_11 (by decide) ?_
  refine lv_icmp_ge (tgt := 48) hx hb dX6_feedBytes_13 (by decide) (fun h => absurd h (by decide)) (fun _ => ?_)
  refine lv_aload_n hx hb dX6_feedBytes_16 rfl (lv_at hl10 1 rfl) ?_
  refine zz_get X Z8 0 rfl rfl (fun w h => List.mem_cons_of_mem _ (List.mem_append_right _ h)) 5 rfl (zz_m 2 rfl) rfl dX6_feedBytes_17 ?_
  refine lv_aload_n hx hb dX6_feedBytes_20 rfl (lv_at hl10 1 rfl) ?_
  refine zz_get X Z8 0 rfl rfl (fun w h => List.mem_cons_of_mem _ (List.mem_append_right _ h)) 10 rfl (zz_m 1 rfl) rfl dX6_feedBytes_21 ?_
  refine lv_iload_n hx hb dX6_feedBytes_24 rfl (lv_at hl10 2 rfl) ?_
  refine lv_iload_n hx hb dX6_feedBytes_25 rfl (lv_at hl10 0 rfl) ?_
  refine lv_iushr (v := (Int32.toUInt32 v >>> (Int32.toUInt32 16 &&& Int32.toUInt32 31)).toInt32) hx hb dX6_feedBytes_26 rfl ?_
  refine lv_sipush (v := 255) hx hb dX6_feedBytes_27 (by decide) ?_
  refine lv_iand hx hb dX6_feedBytes_30 ?_
  refine lv_topi (fun y5 ey6 => ?_)
  refine zz_istN (WS' := fun f7 => [(x, .inr (6, [.ref tx0, .ref nb, .ref tb, .ref ib, .ref ah, .ref tp, .ref rd, .ref sh, .ref sl, .ref wt, .int 9, .int 0, .int 0, .int 0, .int 0])), (tp, .inl (ktp, 96, .inl f7))]) X Z8 1 0 rfl rfl (zz_in 9 96 rfl) dX6_feedBytes_31 (fun _ => rfl) (fun f7 ef8 H11 locs12 Z13 => ?_)
  clear Z8
  refine lv_aload_n hx hb dX6_feedBytes_32 rfl (lv_at hl10 1 rfl) ?_
  refine lv_dup hx hb dX6_feedBytes_33 rfl ?_
  refine zz_get X Z13 0 rfl rfl (fun w h => List.mem_cons_of_mem _ (List.mem_append_right _ h)) 10 rfl (zz_m 1 rfl) rfl dX6_feedBytes_34 ?_
  refine lv_iconst (v := 1) hx hb dX6_feedBytes_37 (by decide) ?_
  refine lv_iadd hx hb dX6_feedBytes_38 ?_
  refine zz_v (v := 10) (by decide) ?_
  refine zz_put (WS' := [(x, .inr (6, [.ref tx0, .ref nb, .ref tb, .ref ib, .ref ah, .ref tp, .ref rd, .ref sh, .ref sl, .ref wt, .int 10, .int 0, .int 0, .int 0, .int 0])), (tp, .inl (ktp, 96, .inl f7))]) X Z13 0 rfl rfl (fun w h => List.mem_cons_of_mem _ (List.mem_append_right _ h)) tyX6 tyX6_ok nmX6 10 rfl (zz_m 1 rfl) rfl rfl rfl rfl dX6_feedBytes_39 rfl (fun H14 locs15 Z16 => ?_)
  clear Z13
  refine lv_iinc (v := 8) (lv' := [(2, .int 8), (0, .ref x), (1, .int v)]) hx hb dX6_feedBytes_42 hl10 (k := 0) rfl (by decide) (by decide) rfl (fun ls17 hl18 => ?_)
  clear hl10
  refine lv_goto (tgt := 3) hx hb dX6_feedBytes_45 (by decide) ?_
  refine lv_iload_n hx hb dX6_feedBytes_3 rfl (lv_at hl18 0 rfl) ?_
  refine lv_if_lt (tgt := 48) hx hb dX6_feedBytes_4 (by decide) (fun h => absurd h (by decide)) (fun _ => ?_)
  refine lv_aload_n hx hb dX6_feedBytes_7 rfl (lv_at hl18 1 rfl) ?_
  refine zz_get X Z16 0 rfl rfl (fun w h => List.mem_cons_of_mem _ (List.mem_append_right _ h)) 10 rfl (zz_m 1 rfl) rfl dX6_feedBytes_8 ?_
  refine lv_bipush (v := 96) hx hb dX6_feedBytes_11 (by decide) ?_
  refine lv_icmp_ge (tgt := 48) hx hb dX6_feedBytes_13 (by decide) (fun h => absurd h (by decide)) (fun _ => ?_)
  refine lv_aload_n hx hb dX6_feedBytes_16 rfl (lv_at hl18 1 rfl) ?_
  refine zz_get X Z16 0 rfl rfl (fun w h => List.mem_cons_of_mem _ (List.mem_append_right _ h)) 5 rfl (zz_m 2 rfl) rfl dX6_feedBytes_17 ?_
  refine lv_aload_n hx hb dX6_feedBytes_20 rfl (lv_at hl18 1 rfl) ?_
  refine zz_get X Z16 0 rfl rfl (fun w h => List.mem_cons_of_mem _ (List.mem_append_right _ h)) 10 rfl (zz_m 1 rfl) rfl dX6_feedBytes_21 ?_
  refine lv_iload_n hx hb dX6_feedBytes_24 rfl (lv_at hl18 2 rfl) ?_
  refine lv_iload_n hx hb dX6_feedBytes_25 rfl (lv_at hl18 0 rfl) ?_
  refine lv_iushr (v := (Int32.toUInt32 v >>> (Int32.toUInt32 8 &&& Int32.toUInt32 31)).toInt32) hx hb dX6_feedBytes_26 rfl ?_
  refine lv_sipush (v := 255) hx hb dX6_feedBytes_27 (by decide) ?_
  refine lv_iand hx hb dX6_feedBytes_30 ?_
  refine lv_topi (fun y9 ey10 => ?_)
  refine zz_istN (WS' := fun f11 => [(x, .inr (6, [.ref tx0, .ref nb, .ref tb, .ref ib, .ref ah, .ref tp, .ref rd, .ref sh, .ref sl, .ref wt, .int 10, .int 0, .int 0, .int 0, .int 0])), (tp, .inl (ktp, 96, .inl f11))]) X Z16 1 0 rfl rfl (zz_in 10 96 rfl) dX6_feedBytes_31 (fun _ => rfl) (fun f11 ef12 H19 locs20 Z21 => ?_)
  clear Z16
  refine lv_aload_n hx hb dX6_feedBytes_32 rfl (lv_at hl18 1 rfl) ?_
  refine lv_dup hx hb dX6_feedBytes_33 rfl ?_
  refine zz_get X Z21 0 rfl rfl (fun w h => List.mem_cons_of_mem _ (List.mem_append_right _ h)) 10 rfl (zz_m 1 rfl) rfl dX6_feedBytes_34 ?_
  refine lv_iconst (v := 1) hx hb dX6_feedBytes_37 (by decide) ?_
  refine lv_iadd hx hb dX6_feedBytes_38 ?_
  refine zz_v (v := 11) (by decide) ?_
  refine zz_put (WS' := [(x, .inr (6, [.ref tx0, .ref nb, .ref tb, .ref ib, .ref ah, .ref tp, .ref rd, .ref sh, .ref sl, .ref wt, .int 11, .int 0, .int 0, .int 0, .int 0])), (tp, .inl (ktp, 96, .inl f11))]) X Z21 0 rfl rfl (fun w h => List.mem_cons_of_mem _ (List.mem_append_right _ h)) tyX6 tyX6_ok nmX6 10 rfl (zz_m 1 rfl) rfl rfl rfl rfl dX6_feedBytes_39 rfl (fun H22 locs23 Z24 => ?_)
  clear Z21
  refine lv_iinc (v := 0) (lv' := [(2, .int 0), (0, .ref x), (1, .int v)]) hx hb dX6_feedBytes_42 hl18 (k := 0) rfl (by decide) (by decide) rfl (fun ls25 hl26 => ?_)
  clear hl18
  refine lv_goto (tgt := 3) hx hb dX6_feedBytes_45 (by decide) ?_
  refine lv_iload_n hx hb dX6_feedBytes_3 rfl (lv_at hl26 0 rfl) ?_
  refine lv_if_lt (tgt := 48) hx hb dX6_feedBytes_4 (by decide) (fun h => absurd h (by decide)) (fun _ => ?_)
  refine lv_aload_n hx hb dX6_feedBytes_7 rfl (lv_at hl26 1 rfl) ?_
  refine zz_get X Z24 0 rfl rfl (fun w h => List.mem_cons_of_mem _ (List.mem_append_right _ h)) 10 rfl (zz_m 1 rfl) rfl dX6_feedBytes_8 ?_
  refine lv_bipush (v := 96) hx hb dX6_feedBytes_11 (by decide) ?_
  refine lv_icmp_ge (tgt := 48) hx hb dX6_feedBytes_13 (by decide) (fun h => absurd h (by decide)) (fun _ => ?_)
  refine lv_aload_n hx hb dX6_feedBytes_16 rfl (lv_at hl26 1 rfl) ?_
  refine zz_get X Z24 0 rfl rfl (fun w h => List.mem_cons_of_mem _ (List.mem_append_right _ h)) 5 rfl (zz_m 2 rfl) rfl dX6_feedBytes_17 ?_
  refine lv_aload_n hx hb dX6_feedBytes_20 rfl (lv_at hl26 1 rfl) ?_
  refine zz_get X Z24 0 rfl rfl (fun w h => List.mem_cons_of_mem _ (List.mem_append_right _ h)) 10 rfl (zz_m 1 rfl) rfl dX6_feedBytes_21 ?_
  refine lv_iload_n hx hb dX6_feedBytes_24 rfl (lv_at hl26 2 rfl) ?_
  refine lv_iload_n hx hb dX6_feedBytes_25 rfl (lv_at hl26 0 rfl) ?_
  refine lv_iushr (v := (Int32.toUInt32 v >>> (Int32.toUInt32 0 &&& Int32.toUInt32 31)).toInt32) hx hb dX6_feedBytes_26 rfl ?_
  refine lv_sipush (v := 255) hx hb dX6_feedBytes_27 (by decide) ?_
  refine lv_iand hx hb dX6_feedBytes_30 ?_
  refine lv_topi (fun y13 ey14 => ?_)
  refine zz_istN (WS' := fun f15 => [(x, .inr (6, [.ref tx0, .ref nb, .ref tb, .ref ib, .ref ah, .ref tp, .ref rd, .ref sh, .ref sl, .ref wt, .int 11, .int 0, .int 0, .int 0, .int 0])), (tp, .inl (ktp, 96, .inl f15))]) X Z24 1 0 rfl rfl (zz_in 11 96 rfl) dX6_feedBytes_31 (fun _ => rfl) (fun f15 ef16 H27 locs28 Z29 => ?_)
  clear Z24
  refine lv_aload_n hx hb dX6_feedBytes_32 rfl (lv_at hl26 1 rfl) ?_
  refine lv_dup hx hb dX6_feedBytes_33 rfl ?_
  refine zz_get X Z29 0 rfl rfl (fun w h => List.mem_cons_of_mem _ (List.mem_append_right _ h)) 10 rfl (zz_m 1 rfl) rfl dX6_feedBytes_34 ?_
  refine lv_iconst (v := 1) hx hb dX6_feedBytes_37 (by decide) ?_
  refine lv_iadd hx hb dX6_feedBytes_38 ?_
  refine zz_v (v := 12) (by decide) ?_
  refine zz_put (WS' := [(x, .inr (6, [.ref tx0, .ref nb, .ref tb, .ref ib, .ref ah, .ref tp, .ref rd, .ref sh, .ref sl, .ref wt, .int 12, .int 0, .int 0, .int 0, .int 0])), (tp, .inl (ktp, 96, .inl f15))]) X Z29 0 rfl rfl (fun w h => List.mem_cons_of_mem _ (List.mem_append_right _ h)) tyX6 tyX6_ok nmX6 10 rfl (zz_m 1 rfl) rfl rfl rfl rfl dX6_feedBytes_39 rfl (fun H30 locs31 Z32 => ?_)
  clear Z29
  refine lv_iinc (v := (-8)) (lv' := [(2, .int (-8)), (0, .ref x), (1, .int v)]) hx hb dX6_feedBytes_42 hl26 (k := 0) rfl (by decide) (by decide) rfl (fun ls33 hl34 => ?_)
  clear hl26
  refine lv_goto (tgt := 3) hx hb dX6_feedBytes_45 (by decide) ?_
  refine lv_iload_n hx hb dX6_feedBytes_3 rfl (lv_at hl34 0 rfl) ?_
  refine lv_if_lt (tgt := 48) hx hb dX6_feedBytes_4 (by decide) (fun _ => ?_) (fun h => absurd (by decide) h)
  exact zz_vret X hr hlk Z32 (f15) trivial [0, 1] [0] (by decide +kernel) rfl rfl dX6_feedBytes_48

set_option maxHeartbeats 4000000 in
set_option maxRecDepth 100000 in
theorem c6_feed (l : Launch) (D : va_G) (x : Nat) (tx0 : Nat) (nb : Nat) (tb : Nat) (ib : Nat) (ah : Nat) (tp : Nat) (rd : Nat) (sh : Nat) (sl : Nat) (wt : Nat) (ktp : ClassId) (tpf : (Nat → Int32)) (a1 : Int32) (a2 : Int32) (a3 : Int32)  : zz_MI l yX6_feed wsX6_feed 1 22 0 0 D [.ref x, .int a1, .int a2, .int a3] [(x, .inr (6, [.ref tx0, .ref nb, .ref tb, .ref ib, .ref ah, .ref tp, .ref rd, .ref sh, .ref sl, .ref wt, .int 0, .int 0, .int 0, .int 0, .int 0])), (tp, .inl (ktp, 96, .inl tpf))] [(ktp, .int)] (fun (r : Int32) (u : Unit) => r = 12) (fun (u : Unit) => []) (fun (u : Unit) => []) := by
  intro sz
  refine Met.ofW (cc := cX6_feed) (maxL := 4) (ret := (some .int)) (by decide) rfl ?_
  intro p e s m args below meth c s₁ B hml hv
  obtain ⟨rfl, hC⟩ := hv
  have hx := B.exec
  have hb := B.bytes
  have hr := B.returns
  have hts := atoms_spec (ws := wsX6_feed) B.pre
  have hown : s.vm.findClass RX6 = some m.cls := findClass_of_methodNamed B.named
  have hlk := B.notSynchronized
  have X : CallFix p m c cX6_feed 4 s _ wsX6_feed RX6 := ⟨hx, hb, hml, hown, hts⟩
  have Z := zz_enter hC
  generalize va_A [(x, .inr (6, [.ref tx0, .ref nb, .ref tb, .ref ib, .ref ah, .ref tp, .ref rd, .ref sh, .ref sl, .ref wt, .int 0, .int 0, .int 0, .int 0, .int 0])), (tp, .inl (ktp, 96, .inl tpf))] sz = A at Z ⊢
  have hl := lv_entry ([.ref x, .int a1, .int a2, .int a3]) (n := 4) (Nat.le_of_ble_eq_true rfl)
  rw [lg_entry_eq]
  generalize (lg_sl ([.ref x, .int a1, .int a2, .int a3]) ++ List.replicate (4 - (lg_sl ([.ref x, .int a1, .int a2, .int a3])).length) Slot.unset).toArray = ls at hl ⊢
  have hl : lv_has ls 4 [(0, .ref x), (1, .int a1), (2, .int a2), (3, .int a3)] := hl
  refine lv_aload_n hx hb dX6_feed_0 rfl (lv_at hl 0 rfl) ?_
  refine zz_get X Z 0 rfl rfl (fun w h => List.mem_cons_of_mem _ (List.mem_append_right _ h)) 10 rfl (zz_m 1 rfl) rfl dX6_feed_1 ?_
  refine lv_bipush (v := 12) hx hb dX6_feed_4 (by decide) ?_
  refine lv_iadd hx hb dX6_feed_6 ?_
  refine zz_v (v := 12) (by decide) ?_
  refine lv_bipush (v := 96) hx hb dX6_feed_7 (by decide) ?_
  refine lv_icmp_le (tgt := 15) hx hb dX6_feed_9 (by decide) (fun _ => ?_) (fun h => absurd (by decide) h)
  refine lv_aload_n hx hb dX6_feed_15 rfl (lv_at hl 0 rfl) ?_
  refine lv_iload_n hx hb dX6_feed_16 rfl (lv_at hl 1 rfl) ?_
  refine zz_cv (WC := [(x, .inr (6, [.ref tx0, .ref nb, .ref tb, .ref ib, .ref ah, .ref tp, .ref rd, .ref sh, .ref sl, .ref wt, .int 0, .int 0, .int 0, .int 0, .int 0])), (tp, .inl (ktp, 96, .inl tpf))]) (TC := [(ktp, .int)]) (WR := []) (TR := []) (k := 0) (n := 0) Z [0, 1] [] [0] [] rfl rfl (by decide +kernel) (by decide +kernel) (by decide +kernel) rfl rfl (fun Zc => va_runV (As := [.int a1]) (rest := []) X (c6_feedBytes0 l D x tx0 nb tb ib ah tp rd sh sl wt ktp tpf a1 s.heap.size) (cwV 1 hts gX6_feed_X6_feedBytes rfl rfl rfl ⟨rfl, zh_X6_feedBytes⟩ ⟨Nat.le_of_ble_eq_true rfl, Nat.le_of_ble_eq_true rfl⟩) (zz_pV (ci := 6) Zc 0 rfl rfl) rfl rfl hl.1 rfl (lv_room (Nat.le_of_ble_eq_true rfl)) dX6_feed_17 ⟨Nat.le_of_ble_eq_true rfl, Nat.le_of_ble_eq_true rfl⟩) rfl rfl (fun u1 H1 locs2 hw2 Z3 => ?_)
  clear Z
  obtain ⟨f94, rfl⟩ : ∃ z, z = u1 := ⟨_, rfl⟩
  try dsimp only at hw2 Z3
  have Z4 : zz_S D A s [(x, .inr (6, [.ref tx0, .ref nb, .ref tb, .ref ib, .ref ah, .ref tp, .ref rd, .ref sh, .ref sl, .ref wt, .int 4, .int 0, .int 0, .int 0, .int 0])), (tp, .inl (ktp, 96, .inl f94))] [(ktp, .int)] H1 locs2 := Z3
  clear Z3
  refine lv_aload_n hx hb dX6_feed_20 rfl (lv_at hl 0 rfl) ?_
  refine lv_iload_n hx hb dX6_feed_21 rfl (lv_at hl 2 rfl) ?_
  refine zz_cv (WC := [(x, .inr (6, [.ref tx0, .ref nb, .ref tb, .ref ib, .ref ah, .ref tp, .ref rd, .ref sh, .ref sl, .ref wt, .int 4, .int 0, .int 0, .int 0, .int 0])), (tp, .inl (ktp, 96, .inl f94))]) (TC := [(ktp, .int)]) (WR := []) (TR := []) (k := 0) (n := 0) Z4 [0, 1] [] [0] [] rfl rfl (by decide +kernel) (by decide +kernel) (by decide +kernel) rfl rfl (fun Zc => va_runV (As := [.int a2]) (rest := []) X (c6_feedBytes4 l D x tx0 nb tb ib ah tp rd sh sl wt ktp f94 a2 H1.size) (cwV 1 hts gX6_feed_X6_feedBytes rfl rfl rfl ⟨rfl, zh_X6_feedBytes⟩ ⟨Nat.le_of_ble_eq_true rfl, Nat.le_of_ble_eq_true rfl⟩) (zz_pV (ci := 6) Zc 0 rfl rfl) rfl rfl hl.1 rfl (lv_room (Nat.le_of_ble_eq_true rfl)) dX6_feed_22 ⟨Nat.le_of_ble_eq_true rfl, Nat.le_of_ble_eq_true rfl⟩) rfl rfl (fun u5 H5 locs6 hw6 Z7 => ?_)
  clear Z4
  obtain ⟨f98, rfl⟩ : ∃ z, z = u5 := ⟨_, rfl⟩
  try dsimp only at hw6 Z7
  have Z8 : zz_S D A s [(x, .inr (6, [.ref tx0, .ref nb, .ref tb, .ref ib, .ref ah, .ref tp, .ref rd, .ref sh, .ref sl, .ref wt, .int 8, .int 0, .int 0, .int 0, .int 0])), (tp, .inl (ktp, 96, .inl f98))] [(ktp, .int)] H5 locs6 := Z7
  clear Z7
  refine lv_aload_n hx hb dX6_feed_25 rfl (lv_at hl 0 rfl) ?_
  refine lv_iload_n hx hb dX6_feed_26 rfl (lv_at hl 3 rfl) ?_
  refine zz_cv (WC := [(x, .inr (6, [.ref tx0, .ref nb, .ref tb, .ref ib, .ref ah, .ref tp, .ref rd, .ref sh, .ref sl, .ref wt, .int 8, .int 0, .int 0, .int 0, .int 0])), (tp, .inl (ktp, 96, .inl f98))]) (TC := [(ktp, .int)]) (WR := []) (TR := []) (k := 0) (n := 0) Z8 [0, 1] [] [0] [] rfl rfl (by decide +kernel) (by decide +kernel) (by decide +kernel) rfl rfl (fun Zc => va_runV (As := [.int a3]) (rest := []) X (c6_feedBytes8 l D x tx0 nb tb ib ah tp rd sh sl wt ktp f98 a3 H5.size) (cwV 1 hts gX6_feed_X6_feedBytes rfl rfl rfl ⟨rfl, zh_X6_feedBytes⟩ ⟨Nat.le_of_ble_eq_true rfl, Nat.le_of_ble_eq_true rfl⟩) (zz_pV (ci := 6) Zc 0 rfl rfl) rfl rfl hl.1 rfl (lv_room (Nat.le_of_ble_eq_true rfl)) dX6_feed_27 ⟨Nat.le_of_ble_eq_true rfl, Nat.le_of_ble_eq_true rfl⟩) rfl rfl (fun u9 H9 locs10 hw10 Z11 => ?_)
  clear Z8
  obtain ⟨f912, rfl⟩ : ∃ z, z = u9 := ⟨_, rfl⟩
  try dsimp only at hw10 Z11
  have Z12 : zz_S D A s [(x, .inr (6, [.ref tx0, .ref nb, .ref tb, .ref ib, .ref ah, .ref tp, .ref rd, .ref sh, .ref sl, .ref wt, .int 12, .int 0, .int 0, .int 0, .int 0])), (tp, .inl (ktp, 96, .inl f912))] [(ktp, .int)] H9 locs10 := Z11
  clear Z11
  refine lv_aload_n hx hb dX6_feed_30 rfl (lv_at hl 0 rfl) ?_
  refine zz_get X Z12 0 rfl rfl (fun w h => List.mem_cons_of_mem _ (List.mem_append_right _ h)) 10 rfl (zz_m 1 rfl) rfl dX6_feed_31 ?_
  exact zz_iret X hr hlk Z12 () rfl [] [] (by decide +kernel) rfl rfl dX6_feed_34

set_option maxHeartbeats 4000000 in
set_option maxRecDepth 100000 in
theorem c_sortAt (l : Launch) (D : va_G) (rd : Nat) (ta : Nat) (dr : Nat)  : zz_MI l yX1_sortAt wsX1_sortAt 0 0 0 0 D [.ref rd, .int 0] [(rd, .inr (1, [.ref ta, .ref dr, .int 0, .int 0, .int 0, .int 0, .int 0, .int 0]))] [] (fun (r : Int32) (u : Unit) => r = 0) (fun (u : Unit) => [(rd, .inr (1, [.ref ta, .ref dr, .int 0, .int 0, .int 0, .int 0, .int 0, .int 0]))]) (fun (u : Unit) => []) := by
  intro sz
  refine Met.ofW (cc := cX1_sortAt) (maxL := 3) (ret := (some .int)) (by decide) rfl ?_
  intro p e s m args below meth c s₁ B hml hv
  obtain ⟨rfl, hC⟩ := hv
  have hx := B.exec
  have hb := B.bytes
  have hr := B.returns
  have hts := atoms_spec (ws := wsX1_sortAt) B.pre
  have hown : s.vm.findClass RX1 = some m.cls := findClass_of_methodNamed B.named
  have hlk := B.notSynchronized
  have X : CallFix p m c cX1_sortAt 3 s _ wsX1_sortAt RX1 := ⟨hx, hb, hml, hown, hts⟩
  have Z := zz_enter hC
  generalize va_A [(rd, .inr (1, [.ref ta, .ref dr, .int 0, .int 0, .int 0, .int 0, .int 0, .int 0]))] sz = A at Z ⊢
  have hl := lv_entry ([.ref rd, .int 0]) (n := 3) (Nat.le_of_ble_eq_true rfl)
  rw [lg_entry_eq]
  generalize (lg_sl ([.ref rd, .int 0]) ++ List.replicate (3 - (lg_sl ([.ref rd, .int 0])).length) Slot.unset).toArray = ls at hl ⊢
  have hl : lv_has ls 3 [(0, .ref rd), (1, .int 0)] := hl
  refine lv_iload_n hx hb dX1_sortAt_0 rfl (lv_at hl 1 rfl) ?_
  refine lv_if_lt (tgt := 12) hx hb dX1_sortAt_1 (by decide) (fun h => absurd h (by decide)) (fun _ => ?_)
  refine lv_iload_n hx hb dX1_sortAt_4 rfl (lv_at hl 1 rfl) ?_
  refine lv_aload_n hx hb dX1_sortAt_5 rfl (lv_at hl 0 rfl) ?_
  refine zz_get X Z 0 rfl rfl (fun w h => List.mem_cons_of_mem _ (List.mem_append_right _ h)) 2 rfl (zz_m 1 rfl) rfl dX1_sortAt_6 ?_
  refine lv_icmp_lt (tgt := 14) hx hb dX1_sortAt_9 (by decide) (fun h => absurd h (by decide)) (fun _ => ?_)
  refine lv_iconst (v := 0) hx hb dX1_sortAt_12 (by decide) ?_
  exact zz_iret X hr hlk Z () rfl [0] [] (by decide +kernel) rfl rfl dX1_sortAt_13

set_option maxHeartbeats 4000000 in
set_option maxRecDepth 100000 in
theorem c_advance (l : Launch) (D : va_G) (rd : Nat) (ta : Nat) (dr : Nat)  : zz_MV l yX1_advance wsX1_advance 1 22 0 0 D [.ref rd] [(rd, .inr (1, [.ref ta, .ref dr, .int 0, .int 0, .int 0, .int 0, .int 0, .int 0]))] [] (fun (u : Unit) => True) (fun (u : Unit) => [(rd, .inr (1, [.ref ta, .ref dr, .int 0, .int 0, .int 0, .int 0, .int 0, .int 0]))]) (fun (u : Unit) => []) := by
  intro sz
  refine Met.ofW (cc := cX1_advance) (maxL := 5) (ret := none) (by decide) rfl ?_
  intro p e s m args below meth c s₁ B hml hv
  obtain ⟨rfl, hC⟩ := hv
  have hx := B.exec
  have hb := B.bytes
  have hr := B.returns
  have hts := atoms_spec (ws := wsX1_advance) B.pre
  have hown : s.vm.findClass RX1 = some m.cls := findClass_of_methodNamed B.named
  have hlk := B.notSynchronized
  have X : CallFix p m c cX1_advance 5 s _ wsX1_advance RX1 := ⟨hx, hb, hml, hown, hts⟩
  have Z := zz_enter hC
  generalize va_A [(rd, .inr (1, [.ref ta, .ref dr, .int 0, .int 0, .int 0, .int 0, .int 0, .int 0]))] sz = A at Z ⊢
  have hl := lv_entry ([.ref rd]) (n := 5) (Nat.le_of_ble_eq_true rfl)
  rw [lg_entry_eq]
  generalize (lg_sl ([.ref rd]) ++ List.replicate (5 - (lg_sl ([.ref rd])).length) Slot.unset).toArray = ls at hl ⊢
  have hl : lv_has ls 5 [(0, .ref rd)] := hl
  refine lv_aload_n hx hb dX1_advance_0 rfl (lv_at hl 0 rfl) ?_
  refine zz_get X Z 0 rfl rfl (fun w h => List.mem_cons_of_mem _ (List.mem_append_right _ h)) 3 rfl (zz_m 1 rfl) rfl dX1_advance_1 ?_
  refine lv_iconst (v := 1) hx hb dX1_advance_4 (by decide) ?_
  refine lv_icmp_eq (tgt := 16) hx hb dX1_advance_5 (by decide) (fun h => absurd h (by decide)) (fun _ => ?_)
  refine lv_aload_n hx hb dX1_advance_8 rfl (lv_at hl 0 rfl) ?_
  refine zz_get X Z 0 rfl rfl (fun w h => List.mem_cons_of_mem _ (List.mem_append_right _ h)) 3 rfl (zz_m 1 rfl) rfl dX1_advance_9 ?_
  refine lv_iconst (v := 2) hx hb dX1_advance_12 (by decide) ?_
  refine lv_icmp_ne (tgt := 20) hx hb dX1_advance_13 (by decide) (fun _ => ?_) (fun h => absurd h (by decide))
  refine lv_iconst (v := 0) hx hb dX1_advance_20 (by decide) ?_
  refine lv_istore_n (lv' := [(1, .int 0), (0, .ref rd)]) hx hb dX1_advance_21 rfl hl (by decide) rfl (fun ls1 hl2 => ?_)
  clear hl
  refine lv_aload_n hx hb dX1_advance_22 rfl (lv_at hl2 1 rfl) ?_
  refine zz_get X Z 0 rfl rfl (fun w h => List.mem_cons_of_mem _ (List.mem_append_right _ h)) 5 rfl (zz_m 2 rfl) rfl dX1_advance_23 ?_
  refine lv_istore_n (lv' := [(2, .int 0), (1, .int 0), (0, .ref rd)]) hx hb dX1_advance_26 rfl hl2 (by decide) rfl (fun ls3 hl4 => ?_)
  clear hl2
  refine lv_aload_n hx hb dX1_advance_27 rfl (lv_at hl4 2 rfl) ?_
  refine lv_aload_n hx hb dX1_advance_28 rfl (lv_at hl4 2 rfl) ?_
  refine zz_get X Z 0 rfl rfl (fun w h => List.mem_cons_of_mem _ (List.mem_append_right _ h)) 5 rfl (zz_m 2 rfl) rfl dX1_advance_29 ?_
  refine zz_put (WS' := [(rd, .inr (1, [.ref ta, .ref dr, .int 0, .int 0, .int 0, .int 0, .int 0, .int 0]))]) X Z 0 rfl rfl (fun w h => List.mem_cons_of_mem _ (List.mem_append_right _ h)) tyX1 tyX1_ok nmX1 4 rfl (zz_m 3 rfl) rfl rfl rfl rfl dX1_advance_32 rfl (fun H5 locs6 Z7 => ?_)
  clear Z
  refine lv_aload_n hx hb dX1_advance_35 rfl (lv_at hl4 2 rfl) ?_
  refine zz_get X Z7 0 rfl rfl (fun w h => List.mem_cons_of_mem _ (List.mem_append_right _ h)) 4 rfl (zz_m 3 rfl) rfl dX1_advance_36 ?_
  refine lv_aload_n hx hb dX1_advance_39 rfl (lv_at hl4 2 rfl) ?_
  refine zz_get X Z7 0 rfl rfl (fun w h => List.mem_cons_of_mem _ (List.mem_append_right _ h)) 2 rfl (zz_m 4 rfl) rfl dX1_advance_40 ?_
  refine lv_icmp_ge (tgt := 73) hx hb dX1_advance_43 (by decide) (fun _ => ?_) (fun h => absurd (by decide) h)
  refine lv_aload_n hx hb dX1_advance_73 rfl (lv_at hl4 2 rfl) ?_
  refine lv_aload_n hx hb dX1_advance_74 rfl (lv_at hl4 2 rfl) ?_
  refine zz_get X Z7 0 rfl rfl (fun w h => List.mem_cons_of_mem _ (List.mem_append_right _ h)) 4 rfl (zz_m 3 rfl) rfl dX1_advance_75 ?_
  refine zz_put (WS' := [(rd, .inr (1, [.ref ta, .ref dr, .int 0, .int 0, .int 0, .int 0, .int 0, .int 0]))]) X Z7 0 rfl rfl (fun w h => List.mem_cons_of_mem _ (List.mem_append_right _ h)) tyX1 tyX1_ok nmX1 5 rfl (zz_m 2 rfl) rfl rfl rfl rfl dX1_advance_78 rfl (fun H8 locs9 Z10 => ?_)
  clear Z7
  refine lv_aload_n hx hb dX1_advance_81 rfl (lv_at hl4 2 rfl) ?_
  refine lv_aload_n hx hb dX1_advance_82 rfl (lv_at hl4 2 rfl) ?_
  refine lv_aload_n hx hb dX1_advance_83 rfl (lv_at hl4 2 rfl) ?_
  refine zz_get X Z10 0 rfl rfl (fun w h => List.mem_cons_of_mem _ (List.mem_append_right _ h)) 4 rfl (zz_m 3 rfl) rfl dX1_advance_84 ?_
  refine zz_ci (WC := [(rd, .inr (1, [.ref ta, .ref dr, .int 0, .int 0, .int 0, .int 0, .int 0, .int 0]))]) (TC := []) (WR := []) (TR := []) (k := 0) (n := 0) Z10 [0] [] [] [] rfl rfl (by decide +kernel) (by decide +kernel) (by decide +kernel) rfl rfl (fun Zc => va_runV (As := [.int 0]) (rest := [.ref rd]) X (c_sortAt l D rd ta dr H8.size) (cwV 1 hts gX1_advance_X1_sortAt rfl rfl rfl ⟨rfl, zh_X1_sortAt⟩ ⟨Nat.le_of_ble_eq_true rfl, Nat.le_of_ble_eq_true rfl⟩) (zz_pV (ci := 1) Zc 0 rfl rfl) rfl rfl hl4.1 rfl (lv_room (Nat.le_of_ble_eq_true rfl)) dX1_advance_87 ⟨Nat.le_of_ble_eq_true rfl, Nat.le_of_ble_eq_true rfl⟩) rfl rfl (fun r3 u1 H11 locs12 hw2 Z13 => ?_)
  clear Z10
  have hw2 : r3 = 0 := hw2.trans (by decide)
  subst r3
  have Z14 : zz_S D A s [(rd, .inr (1, [.ref ta, .ref dr, .int 0, .int 0, .int 0, .int 0, .int 0, .int 0]))] [] H11 locs12 := Z13
  clear Z13
  refine zz_put (WS' := [(rd, .inr (1, [.ref ta, .ref dr, .int 0, .int 0, .int 0, .int 0, .int 0, .int 0]))]) X Z14 0 rfl rfl (fun w h => List.mem_cons_of_mem _ (List.mem_append_right _ h)) tyX1 tyX1_ok nmX1 3 rfl (zz_m 1 rfl) rfl rfl rfl rfl dX1_advance_90 rfl (fun H15 locs16 Z17 => ?_)
  clear Z14
  refine lv_aload_n hx hb dX1_advance_93 rfl (lv_at hl4 2 rfl) ?_
  refine zz_get X Z17 0 rfl rfl (fun w h => List.mem_cons_of_mem _ (List.mem_append_right _ h)) 3 rfl (zz_m 1 rfl) rfl dX1_advance_94 ?_
  refine lv_if_ne (tgt := 101) hx hb dX1_advance_97 (by decide) (fun h => absurd (by decide) h) (fun _ => ?_)
  exact zz_vret X hr hlk Z17 () trivial [0] [] (by decide +kernel) rfl rfl dX1_advance_100

set_option maxHeartbeats 4000000 in
set_option maxRecDepth 100000 in
theorem c_isWord (l : Launch) (D : va_G) (rd : Nat) (ta : Nat) (dr : Nat) (qq : Nat)  : zz_MI l yX1_isWord wsX1_isWord 0 0 0 0 D [.ref rd, .ref qq] [(rd, .inr (1, [.ref ta, .ref dr, .int 0, .int 0, .int 0, .int 0, .int 0, .int 0]))] [] (fun (r : Int32) (u : Unit) => r = 0) (fun (u : Unit) => [(rd, .inr (1, [.ref ta, .ref dr, .int 0, .int 0, .int 0, .int 0, .int 0, .int 0]))]) (fun (u : Unit) => []) := by
  intro sz
  refine Met.ofW (cc := cX1_isWord) (maxL := 3) (ret := (some .boolean)) (by decide) rfl ?_
  intro p e s m args below meth c s₁ B hml hv
  obtain ⟨rfl, hC⟩ := hv
  have hx := B.exec
  have hb := B.bytes
  have hr := B.returns
  have hts := atoms_spec (ws := wsX1_isWord) B.pre
  have hown : s.vm.findClass RX1 = some m.cls := findClass_of_methodNamed B.named
  have hlk := B.notSynchronized
  have X : CallFix p m c cX1_isWord 3 s _ wsX1_isWord RX1 := ⟨hx, hb, hml, hown, hts⟩
  have Z := zz_enter hC
  generalize va_A [(rd, .inr (1, [.ref ta, .ref dr, .int 0, .int 0, .int 0, .int 0, .int 0, .int 0]))] sz = A at Z ⊢
  have hl := lv_entry ([.ref rd, .ref qq]) (n := 3) (Nat.le_of_ble_eq_true rfl)
  rw [lg_entry_eq]
  generalize (lg_sl ([.ref rd, .ref qq]) ++ List.replicate (3 - (lg_sl ([.ref rd, .ref qq])).length) Slot.unset).toArray = ls at hl ⊢
  have hl : lv_has ls 3 [(0, .ref rd), (1, .ref qq)] := hl
  refine lv_aload_n hx hb dX1_isWord_0 rfl (lv_at hl 0 rfl) ?_
  refine zz_get X Z 0 rfl rfl (fun w h => List.mem_cons_of_mem _ (List.mem_append_right _ h)) 3 rfl (zz_m 1 rfl) rfl dX1_isWord_1 ?_
  refine lv_iconst (v := 1) hx hb dX1_isWord_4 (by decide) ?_
  refine lv_icmp_ne (tgt := 24) hx hb dX1_isWord_5 (by decide) (fun _ => ?_) (fun h => absurd h (by decide))
  refine lv_iconst (v := 0) hx hb dX1_isWord_24 (by decide) ?_
  exact zz_zret X hr hlk Z (by decide) () rfl [0] [] (by decide +kernel) rfl rfl dX1_isWord_25

set_option maxHeartbeats 4000000 in
set_option maxRecDepth 100000 in
theorem c_keyHere (l : Launch) (D : va_G) (rd : Nat) (ta : Nat) (dr : Nat)  : zz_MI l yX1_keyHere wsX1_keyHere 1 22 0 0 D [.ref rd] [(rd, .inr (1, [.ref ta, .ref dr, .int 0, .int 0, .int 0, .int 0, .int 0, .int 0]))] [] (fun (r : Int32) (u : Unit) => r = (-1000000005)) (fun (u : Unit) => [(rd, .inr (1, [.ref ta, .ref dr, .int 0, .int 0, .int 0, .int 0, .int 0, .int 0]))]) (fun (u : Unit) => []) := by
  intro sz
  refine Met.ofW (cc := cX1_keyHere) (maxL := 1) (ret := (some .int)) (by decide) rfl ?_
  intro p e s m args below meth c s₁ B hml hv
  obtain ⟨rfl, hC⟩ := hv
  have hx := B.exec
  have hb := B.bytes
  have hr := B.returns
  have hts := atoms_spec (ws := wsX1_keyHere) B.pre
  have hown : s.vm.findClass RX1 = some m.cls := findClass_of_methodNamed B.named
  have hlk := B.notSynchronized
  have X : CallFix p m c cX1_keyHere 1 s _ wsX1_keyHere RX1 := ⟨hx, hb, hml, hown, hts⟩
  have Z := zz_enter hC
  generalize va_A [(rd, .inr (1, [.ref ta, .ref dr, .int 0, .int 0, .int 0, .int 0, .int 0, .int 0]))] sz = A at Z ⊢
  have hl := lv_entry ([.ref rd]) (n := 1) (Nat.le_of_ble_eq_true rfl)
  rw [lg_entry_eq]
  generalize (lg_sl ([.ref rd]) ++ List.replicate (1 - (lg_sl ([.ref rd])).length) Slot.unset).toArray = ls at hl ⊢
  have hl : lv_has ls 1 [(0, .ref rd)] := hl
  refine lv_aload_n hx hb dX1_keyHere_0 rfl (lv_at hl 0 rfl) ?_
  obtain ⟨qs1, hqs2⟩ := Z.2.2.2.2.2.2.2 (65, "melt") (zz_m 0 rfl)
  refine va_ldcS hx hb hown hqs2 dX1_keyHere_1 ?_
  refine zz_ci (WC := [(rd, .inr (1, [.ref ta, .ref dr, .int 0, .int 0, .int 0, .int 0, .int 0, .int 0]))]) (TC := []) (WR := []) (TR := []) (k := 0) (n := 0) Z [0] [] [] [] rfl rfl (by decide +kernel) (by decide +kernel) (by decide +kernel) rfl rfl (fun Zc => va_runV (As := [.ref qs1]) (rest := []) X (c_isWord l D rd ta dr qs1 s.heap.size) (cwV 1 hts gX1_keyHere_X1_isWord rfl rfl rfl ⟨rfl, zh_X1_isWord⟩ ⟨Nat.le_of_ble_eq_true rfl, Nat.le_of_ble_eq_true rfl⟩) (zz_pV (ci := 1) Zc 0 rfl rfl) rfl rfl hl.1 rfl (lv_room (Nat.le_of_ble_eq_true rfl)) dX1_keyHere_3 ⟨Nat.le_of_ble_eq_true rfl, Nat.le_of_ble_eq_true rfl⟩) rfl rfl (fun r5 u3 H1 locs2 hw4 Z3 => ?_)
  clear Z
  have hw4 : r5 = 0 := hw4.trans (by decide)
  subst r5
  have Z4 : zz_S D A s [(rd, .inr (1, [.ref ta, .ref dr, .int 0, .int 0, .int 0, .int 0, .int 0, .int 0]))] [] H1 locs2 := Z3
  clear Z3
  refine lv_if_eq (tgt := 11) hx hb dX1_keyHere_6 (by decide) (fun _ => ?_) (fun h => absurd (by decide) h)
  refine lv_aload_n hx hb dX1_keyHere_11 rfl (lv_at hl 0 rfl) ?_
  obtain ⟨qs6, hqs7⟩ := Z4.2.2.2.2.2.2.2 (71, "fee") (zz_m 1 rfl)
  refine va_ldcS hx hb hown hqs7 dX1_keyHere_12 ?_
  refine zz_ci (WC := [(rd, .inr (1, [.ref ta, .ref dr, .int 0, .int 0, .int 0, .int 0, .int 0, .int 0]))]) (TC := []) (WR := []) (TR := []) (k := 0) (n := 0) Z4 [0] [] [] [] rfl rfl (by decide +kernel) (by decide +kernel) (by decide +kernel) rfl rfl (fun Zc => va_runV (As := [.ref qs6]) (rest := []) X (c_isWord l D rd ta dr qs6 H1.size) (cwV 1 hts gX1_keyHere_X1_isWord rfl rfl rfl ⟨rfl, zh_X1_isWord⟩ ⟨Nat.le_of_ble_eq_true rfl, Nat.le_of_ble_eq_true rfl⟩) (zz_pV (ci := 1) Zc 0 rfl rfl) rfl rfl hl.1 rfl (lv_room (Nat.le_of_ble_eq_true rfl)) dX1_keyHere_14 ⟨Nat.le_of_ble_eq_true rfl, Nat.le_of_ble_eq_true rfl⟩) rfl rfl (fun r10 u8 H5 locs6 hw9 Z7 => ?_)
  clear Z4
  have hw9 : r10 = 0 := hw9.trans (by decide)
  subst r10
  have Z8 : zz_S D A s [(rd, .inr (1, [.ref ta, .ref dr, .int 0, .int 0, .int 0, .int 0, .int 0, .int 0]))] [] H5 locs6 := Z7
  clear Z7
  refine lv_if_eq (tgt := 22) hx hb dX1_keyHere_17 (by decide) (fun _ => ?_) (fun h => absurd (by decide) h)
  refine lv_aload_n hx hb dX1_keyHere_22 rfl (lv_at hl 0 rfl) ?_
  obtain ⟨qs11, hqs12⟩ := Z8.2.2.2.2.2.2.2 (73, "fine") (zz_m 2 rfl)
  refine va_ldcS hx hb hown hqs12 dX1_keyHere_23 ?_
  refine zz_ci (WC := [(rd, .inr (1, [.ref ta, .ref dr, .int 0, .int 0, .int 0, .int 0, .int 0, .int 0]))]) (TC := []) (WR := []) (TR := []) (k := 0) (n := 0) Z8 [0] [] [] [] rfl rfl (by decide +kernel) (by decide +kernel) (by decide +kernel) rfl rfl (fun Zc => va_runV (As := [.ref qs11]) (rest := []) X (c_isWord l D rd ta dr qs11 H5.size) (cwV 1 hts gX1_keyHere_X1_isWord rfl rfl rfl ⟨rfl, zh_X1_isWord⟩ ⟨Nat.le_of_ble_eq_true rfl, Nat.le_of_ble_eq_true rfl⟩) (zz_pV (ci := 1) Zc 0 rfl rfl) rfl rfl hl.1 rfl (lv_room (Nat.le_of_ble_eq_true rfl)) dX1_keyHere_25 ⟨Nat.le_of_ble_eq_true rfl, Nat.le_of_ble_eq_true rfl⟩) rfl rfl (fun r15 u13 H9 locs10 hw14 Z11 => ?_)
  clear Z8
  have hw14 : r15 = 0 := hw14.trans (by decide)
  subst r15
  have Z12 : zz_S D A s [(rd, .inr (1, [.ref ta, .ref dr, .int 0, .int 0, .int 0, .int 0, .int 0, .int 0]))] [] H9 locs10 := Z11
  clear Z11
  refine lv_if_eq (tgt := 35) hx hb dX1_keyHere_28 (by decide) (fun _ => ?_) (fun h => absurd (by decide) h)
  refine lv_ldc (v := (-1000000005)) hx hb hown (hts _ (zz_m 1 rfl)) dX1_keyHere_35 ?_
  exact zz_iret X hr hlk Z12 () rfl [0] [] (by decide +kernel) rfl rfl dX1_keyHere_37

set_option maxHeartbeats 4000000 in
set_option maxRecDepth 100000 in
theorem c_readText (l : Launch) (D : va_G) (rd : Nat) (ta : Nat) (dr : Nat)  : zz_MI l yX1_readText wsX1_readText 2 46 0 0 D [.ref rd, .int 0] [(rd, .inr (1, [.ref ta, .ref dr, .int 0, .int 0, .int 0, .int 0, .int 0, .int 0]))] [] (fun (r : Int32) (u : Unit) => r = 0) (fun (u : Unit) => [(rd, .inr (1, [.ref ta, .ref dr, .int 0, .int 0, .int 0, .int 0, .int 0, .int 0]))]) (fun (u : Unit) => []) := by
  intro sz
  refine Met.ofW (cc := cX1_readText) (maxL := 3) (ret := (some .int)) (by decide) rfl ?_
  intro p e s m args below meth c s₁ B hml hv
  obtain ⟨rfl, hC⟩ := hv
  have hx := B.exec
  have hb := B.bytes
  have hr := B.returns
  have hts := atoms_spec (ws := wsX1_readText) B.pre
  have hown : s.vm.findClass RX1 = some m.cls := findClass_of_methodNamed B.named
  have hlk := B.notSynchronized
  have X : CallFix p m c cX1_readText 3 s _ wsX1_readText RX1 := ⟨hx, hb, hml, hown, hts⟩
  have Z := zz_enter hC
  generalize va_A [(rd, .inr (1, [.ref ta, .ref dr, .int 0, .int 0, .int 0, .int 0, .int 0, .int 0]))] sz = A at Z ⊢
  have hl := lv_entry ([.ref rd, .int 0]) (n := 3) (Nat.le_of_ble_eq_true rfl)
  rw [lg_entry_eq]
  generalize (lg_sl ([.ref rd, .int 0]) ++ List.replicate (3 - (lg_sl ([.ref rd, .int 0])).length) Slot.unset).toArray = ls at hl ⊢
  have hl : lv_has ls 3 [(0, .ref rd), (1, .int 0)] := hl
  refine lv_aload_n hx hb dX1_readText_0 rfl (lv_at hl 0 rfl) ?_
  refine lv_iload_n hx hb dX1_readText_1 rfl (lv_at hl 1 rfl) ?_
  refine lv_iconst (v := 0) hx hb dX1_readText_2 (by decide) ?_
  refine lv_bipush (v := 96) hx hb dX1_readText_3 (by decide) ?_
  refine zz_ci (WC := []) (TC := []) (WR := [(rd, .inr (1, [.ref ta, .ref dr, .int 0, .int 0, .int 0, .int 0, .int 0, .int 0]))]) (TR := []) (k := 0) (n := 0) Z [] [0] [] [] rfl rfl (by decide +kernel) (by decide +kernel) (by decide +kernel) rfl rfl (fun Zc => va_runSN (As := [.int 0, .int 0, .int 96]) (rest := [.ref rd]) X (c_held l D 0 0 96 s.heap.size) ⟨va_cnB 3 hts gX1_readText_X6_held_n22 rfl rfl rfl (zz_nw (q := (RX1, 22, yX6_held, RX6)) Z.2.2.2.2.2 7 rfl) (hts _ (zz_m 10 rfl)) zh_X6_held ⟨Nat.le_of_ble_eq_true rfl, Nat.le_of_ble_eq_true rfl⟩, hts _ (zz_m 9 rfl), trivial⟩ (zz_pS Zc) rfl rfl hl.1 rfl (lv_room (Nat.le_of_ble_eq_true rfl)) dX1_readText_5 ⟨Nat.le_of_ble_eq_true rfl, Nat.le_of_ble_eq_true rfl⟩) rfl rfl (fun r3 u1 H1 locs2 hw2 Z3 => ?_)
  clear Z
  subst r3
  have Z4 : zz_S D A s [(rd, .inr (1, [.ref ta, .ref dr, .int 0, .int 0, .int 0, .int 0, .int 0, .int 0]))] [] H1 locs2 := Z3
  clear Z3
  refine zz_v (v := 0) (by decide) ?_
  refine zz_put (WS' := [(rd, .inr (1, [.ref ta, .ref dr, .int 0, .int 0, .int 0, .int 0, .int 0, .int 0]))]) X Z4 0 rfl rfl (fun w h => List.mem_cons_of_mem _ (List.mem_append_left _ (List.mem_append_right _ h))) tyX1 tyX1_ok nmX1 2 rfl (zz_m 1 rfl) rfl rfl rfl rfl dX1_readText_8 rfl (fun H5 locs6 Z7 => ?_)
  clear Z4
  refine lv_aload_n hx hb dX1_readText_11 rfl (lv_at hl 0 rfl) ?_
  refine lv_iconst (v := 0) hx hb dX1_readText_12 (by decide) ?_
  refine zz_put (WS' := [(rd, .inr (1, [.ref ta, .ref dr, .int 0, .int 0, .int 0, .int 0, .int 0, .int 0]))]) X Z7 0 rfl rfl (fun w h => List.mem_cons_of_mem _ (List.mem_append_left _ (List.mem_append_right _ h))) tyX1 tyX1_ok nmX1 3 rfl (zz_m 2 rfl) rfl rfl rfl rfl dX1_readText_13 rfl (fun H8 locs9 Z10 => ?_)
  clear Z7
  refine lv_aload_n hx hb dX1_readText_16 rfl (lv_at hl 0 rfl) ?_
  refine lv_iconst (v := 0) hx hb dX1_readText_17 (by decide) ?_
  refine zz_put (WS' := [(rd, .inr (1, [.ref ta, .ref dr, .int 0, .int 0, .int 0, .int 0, .int 0, .int 0]))]) X Z10 0 rfl rfl (fun w h => List.mem_cons_of_mem _ (List.mem_append_left _ (List.mem_append_right _ h))) tyX1 tyX1_ok nmX1 5 rfl (zz_m 3 rfl) rfl rfl rfl rfl dX1_readText_18 rfl (fun H11 locs12 Z13 => ?_)
  clear Z10
  refine lv_aload_n hx hb dX1_readText_21 rfl (lv_at hl 0 rfl) ?_
  refine lv_iconst (v := 0) hx hb dX1_readText_22 (by decide) ?_
  refine zz_put (WS' := [(rd, .inr (1, [.ref ta, .ref dr, .int 0, .int 0, .int 0, .int 0, .int 0, .int 0]))]) X Z13 0 rfl rfl (fun w h => List.mem_cons_of_mem _ (List.mem_append_left _ (List.mem_append_right _ h))) tyX1 tyX1_ok nmX1 6 rfl (zz_m 4 rfl) rfl rfl rfl rfl dX1_readText_23 rfl (fun H14 locs15 Z16 => ?_)
  clear Z13
  refine lv_aload_n hx hb dX1_readText_26 rfl (lv_at hl 0 rfl) ?_
  refine lv_iconst (v := 0) hx hb dX1_readText_27 (by decide) ?_
  refine zz_put (WS' := [(rd, .inr (1, [.ref ta, .ref dr, .int 0, .int 0, .int 0, .int 0, .int 0, .int 0]))]) X Z16 0 rfl rfl (fun w h => List.mem_cons_of_mem _ (List.mem_append_left _ (List.mem_append_right _ h))) tyX1 tyX1_ok nmX1 7 rfl (zz_m 5 rfl) rfl rfl rfl rfl dX1_readText_28 rfl (fun H17 locs18 Z19 => ?_)
  clear Z16
  refine lv_aload_n hx hb dX1_readText_31 rfl (lv_at hl 0 rfl) ?_
  refine zz_cv (WC := [(rd, .inr (1, [.ref ta, .ref dr, .int 0, .int 0, .int 0, .int 0, .int 0, .int 0]))]) (TC := []) (WR := []) (TR := []) (k := 0) (n := 0) Z19 [0] [] [] [] rfl rfl (by decide +kernel) (by decide +kernel) (by decide +kernel) rfl rfl (fun Zc => va_runV (As := []) (rest := []) X (c_advance l D rd ta dr H17.size) (cwV 0 hts gX1_readText_X1_advance rfl rfl rfl ⟨rfl, zh_X1_advance⟩ ⟨Nat.le_of_ble_eq_true rfl, Nat.le_of_ble_eq_true rfl⟩) (zz_pV (ci := 1) Zc 0 rfl rfl) rfl rfl hl.1 rfl (lv_room (Nat.le_of_ble_eq_true rfl)) dX1_readText_32 ⟨Nat.le_of_ble_eq_true rfl, Nat.le_of_ble_eq_true rfl⟩) rfl rfl (fun u4 H20 locs21 hw5 Z22 => ?_)
  clear Z19
  have Z23 : zz_S D A s [(rd, .inr (1, [.ref ta, .ref dr, .int 0, .int 0, .int 0, .int 0, .int 0, .int 0]))] [] H20 locs21 := Z22
  clear Z22
  refine lv_aload_n hx hb dX1_readText_35 rfl (lv_at hl 0 rfl) ?_
  refine zz_ci (WC := [(rd, .inr (1, [.ref ta, .ref dr, .int 0, .int 0, .int 0, .int 0, .int 0, .int 0]))]) (TC := []) (WR := []) (TR := []) (k := 0) (n := 0) Z23 [0] [] [] [] rfl rfl (by decide +kernel) (by decide +kernel) (by decide +kernel) rfl rfl (fun Zc => va_runV (As := []) (rest := []) X (c_keyHere l D rd ta dr H20.size) (cwV 0 hts gX1_readText_X1_keyHere rfl rfl rfl ⟨rfl, zh_X1_keyHere⟩ ⟨Nat.le_of_ble_eq_true rfl, Nat.le_of_ble_eq_true rfl⟩) (zz_pV (ci := 1) Zc 0 rfl rfl) rfl rfl hl.1 rfl (lv_room (Nat.le_of_ble_eq_true rfl)) dX1_readText_36 ⟨Nat.le_of_ble_eq_true rfl, Nat.le_of_ble_eq_true rfl⟩) rfl rfl (fun r9 u7 H24 locs25 hw8 Z26 => ?_)
  clear Z23
  have hw8 : r9 = (-1000000005) := hw8.trans (by decide)
  subst r9
  have Z27 : zz_S D A s [(rd, .inr (1, [.ref ta, .ref dr, .int 0, .int 0, .int 0, .int 0, .int 0, .int 0]))] [] H24 locs25 := Z26
  clear Z26
  refine lv_istore_n (lv' := [(2, .int (-1000000005)), (0, .ref rd), (1, .int 0)]) hx hb dX1_readText_39 rfl hl (by decide) rfl (fun ls28 hl29 => ?_)
  clear hl
  refine lv_iload_n hx hb dX1_readText_40 rfl (lv_at hl29 0 rfl) ?_
  refine lv_ldc (v := (-1000000005)) hx hb hown (hts _ (zz_m 6 rfl)) dX1_readText_41 ?_
  refine lv_icmp_ne (tgt := 51) hx hb dX1_readText_43 (by decide) (fun h => absurd (by decide) h) (fun _ => ?_)
  refine lv_aload_n hx hb dX1_readText_46 rfl (lv_at hl29 1 rfl) ?_
  refine zz_get X Z27 0 rfl rfl (fun w h => List.mem_cons_of_mem _ (List.mem_append_left _ (List.mem_append_right _ h))) 4 rfl (zz_m 7 rfl) rfl dX1_readText_47 ?_
  exact zz_iret X hr hlk Z27 () rfl [0] [] (by decide +kernel) rfl rfl dX1_readText_50

set_option maxHeartbeats 4000000 in
set_option maxRecDepth 100000 in
theorem c6_text (l : Launch) (D : va_G) (x : Nat) (tx0 : Nat) (nb : Nat) (tb : Nat) (ib : Nat) (ah : Nat) (tp : Nat) (rd : Nat) (sh : Nat) (sl : Nat) (wt : Nat) (ta : Nat) (dr : Nat)  : zz_MI l yX6_text wsX6_text 3 68 0 0 D [.ref x] [(x, .inr (6, [.ref tx0, .ref nb, .ref tb, .ref ib, .ref ah, .ref tp, .ref rd, .ref sh, .ref sl, .ref wt, .int 0, .int 0, .int 0, .int 0, .int 0])), (rd, .inr (1, [.ref ta, .ref dr, .int 0, .int 0, .int 0, .int 0, .int 0, .int 0]))] [] (fun (r : Int32) (u : Unit) => r = (-100)) (fun (u : Unit) => []) (fun (u : Unit) => []) := by
  intro sz
  refine Met.ofW (cc := cX6_text) (maxL := 2) (ret := (some .int)) (by decide) rfl ?_
  intro p e s m args below meth c s₁ B hml hv
  obtain ⟨rfl, hC⟩ := hv
  have hx := B.exec
  have hb := B.bytes
  have hr := B.returns
  have hts := atoms_spec (ws := wsX6_text) B.pre
  have hown : s.vm.findClass RX6 = some m.cls := findClass_of_methodNamed B.named
  have hlk := B.notSynchronized
  have X : CallFix p m c cX6_text 2 s _ wsX6_text RX6 := ⟨hx, hb, hml, hown, hts⟩
  have Z := zz_enter hC
  generalize va_A [(x, .inr (6, [.ref tx0, .ref nb, .ref tb, .ref ib, .ref ah, .ref tp, .ref rd, .ref sh, .ref sl, .ref wt, .int 0, .int 0, .int 0, .int 0, .int 0])), (rd, .inr (1, [.ref ta, .ref dr, .int 0, .int 0, .int 0, .int 0, .int 0, .int 0]))] sz = A at Z ⊢
  have hl := lv_entry ([.ref x]) (n := 2) (Nat.le_of_ble_eq_true rfl)
  rw [lg_entry_eq]
  generalize (lg_sl ([.ref x]) ++ List.replicate (2 - (lg_sl ([.ref x])).length) Slot.unset).toArray = ls at hl ⊢
  have hl : lv_has ls 2 [(0, .ref x)] := hl
  refine lv_aload_n hx hb dX6_text_0 rfl (lv_at hl 0 rfl) ?_
  refine zz_get X Z 0 rfl rfl (fun w h => List.mem_cons_of_mem _ (List.mem_append_left _ (List.mem_append_left _ (List.mem_append_left _ (List.mem_append_right _ h))))) 6 rfl (zz_m 1 rfl) rfl dX6_text_1 ?_
  refine lv_aload_n hx hb dX6_text_4 rfl (lv_at hl 0 rfl) ?_
  refine zz_get X Z 0 rfl rfl (fun w h => List.mem_cons_of_mem _ (List.mem_append_left _ (List.mem_append_left _ (List.mem_append_left _ (List.mem_append_right _ h))))) 10 rfl (zz_m 2 rfl) rfl dX6_text_5 ?_
  refine zz_ci (WC := [(rd, .inr (1, [.ref ta, .ref dr, .int 0, .int 0, .int 0, .int 0, .int 0, .int 0]))]) (TC := []) (WR := [(x, .inr (6, [.ref tx0, .ref nb, .ref tb, .ref ib, .ref ah, .ref tp, .ref rd, .ref sh, .ref sl, .ref wt, .int 0, .int 0, .int 0, .int 0, .int 0]))]) (TR := []) (k := 0) (n := 0) Z [1] [0] [] [] rfl rfl (by decide +kernel) (by decide +kernel) (by decide +kernel) rfl rfl (fun Zc => va_runV (As := [.int 0]) (rest := []) X (c_readText l D rd ta dr s.heap.size) (cwV 1 hts gX6_text_X1_readText rfl rfl rfl ⟨rfl, zh_X1_readText⟩ ⟨Nat.le_of_ble_eq_true rfl, Nat.le_of_ble_eq_true rfl⟩) (zz_pV (ci := 1) Zc 0 rfl rfl) rfl rfl hl.1 rfl (lv_room (Nat.le_of_ble_eq_true rfl)) dX6_text_8 ⟨Nat.le_of_ble_eq_true rfl, Nat.le_of_ble_eq_true rfl⟩) rfl rfl (fun r3 u1 H1 locs2 hw2 Z3 => ?_)
  clear Z
  have hw2 : r3 = 0 := hw2.trans (by decide)
  subst r3
  have Z4 : zz_S D A s [(x, .inr (6, [.ref tx0, .ref nb, .ref tb, .ref ib, .ref ah, .ref tp, .ref rd, .ref sh, .ref sl, .ref wt, .int 0, .int 0, .int 0, .int 0, .int 0])), (rd, .inr (1, [.ref ta, .ref dr, .int 0, .int 0, .int 0, .int 0, .int 0, .int 0]))] [] H1 locs2 := Z3
  clear Z3
  refine lv_istore_n (lv' := [(1, .int 0), (0, .ref x)]) hx hb dX6_text_11 rfl hl (by decide) rfl (fun ls5 hl6 => ?_)
  clear hl
  refine lv_aload_n hx hb dX6_text_12 rfl (lv_at hl6 1 rfl) ?_
  refine lv_iconst (v := 0) hx hb dX6_text_13 (by decide) ?_
  refine zz_put (WS' := [(x, .inr (6, [.ref tx0, .ref nb, .ref tb, .ref ib, .ref ah, .ref tp, .ref rd, .ref sh, .ref sl, .ref wt, .int 0, .int 0, .int 0, .int 0, .int 0])), (rd, .inr (1, [.ref ta, .ref dr, .int 0, .int 0, .int 0, .int 0, .int 0, .int 0]))]) X Z4 0 rfl rfl (fun w h => List.mem_cons_of_mem _ (List.mem_append_left _ (List.mem_append_left _ (List.mem_append_left _ (List.mem_append_right _ h))))) tyX6 tyX6_ok nmX6 10 rfl (zz_m 2 rfl) rfl rfl rfl rfl dX6_text_14 rfl (fun H7 locs8 Z9 => ?_)
  clear Z4
  refine lv_iload_n hx hb dX6_text_17 rfl (lv_at hl6 0 rfl) ?_
  refine lv_ldc (v := (-1000000005)) hx hb hown (hts _ (zz_m 3 rfl)) dX6_text_18 ?_
  refine lv_icmp_eq (tgt := 28) hx hb dX6_text_20 (by decide) (fun h => absurd h (by decide)) (fun _ => ?_)
  refine lv_bipush (v := (-100)) hx hb dX6_text_23 (by decide) ?_
  refine lv_iload_n hx hb dX6_text_25 rfl (lv_at hl6 0 rfl) ?_
  refine lv_isub hx hb dX6_text_26 ?_
  refine zz_v (v := (-100)) (by decide) ?_
  exact zz_iret X hr hlk Z9 () rfl [] [] (by decide +kernel) rfl rfl dX6_text_27

set_option maxHeartbeats 4000000 in
set_option maxRecDepth 100000 in
theorem c_become (l : Launch) (D : va_G) (b : Nat) (so : Int32) (le : Int32) (va : Nat) (kv : ClassId) (vf0 : (Nat → Int32)) (ns : Int32) (nl : Int32)  : zz_MV l yX2_become wsX2_become 2 46 0 0 D [.ref b, .int ns, .int nl] [(b, .inr (2, [.int so, .int le, .ref va])), (va, .inl (kv, 24, .inl vf0))] [(kv, .int)] (fun (f9 : (Nat → Int32)) => True) (fun (f9 : (Nat → Int32)) => [(b, .inr (2, [.int ns, .int (zz_held nl 0 24), .ref va])), (va, .inl (kv, 24, .inl f9))]) (fun (f9 : (Nat → Int32)) => [(kv, .int)]) := by
  intro sz
  refine Met.ofW (cc := cX2_become) (maxL := 4) (ret := none) (by decide) rfl ?_
  intro p e s m args below meth c s₁ B hml hv
  obtain ⟨rfl, hC⟩ := hv
  have hx := B.exec
  have hb := B.bytes
  have hr := B.returns
  have hts := atoms_spec (ws := wsX2_become) B.pre
  have hown : s.vm.findClass RX2 = some m.cls := findClass_of_methodNamed B.named
  have hlk := B.notSynchronized
  have X : CallFix p m c cX2_become 4 s _ wsX2_become RX2 := ⟨hx, hb, hml, hown, hts⟩
  have Z := zz_enter hC
  generalize va_A [(b, .inr (2, [.int so, .int le, .ref va])), (va, .inl (kv, 24, .inl vf0))] sz = A at Z ⊢
  have hl := lv_entry ([.ref b, .int ns, .int nl]) (n := 4) (Nat.le_of_ble_eq_true rfl)
  rw [lg_entry_eq]
  generalize (lg_sl ([.ref b, .int ns, .int nl]) ++ List.replicate (4 - (lg_sl ([.ref b, .int ns, .int nl])).length) Slot.unset).toArray = ls at hl ⊢
  have hl : lv_has ls 4 [(0, .ref b), (1, .int ns), (2, .int nl)] := hl
  refine lv_aload_n hx hb dX2_become_0 rfl (lv_at hl 0 rfl) ?_
  refine lv_iload_n hx hb dX2_become_1 rfl (lv_at hl 1 rfl) ?_
  refine zz_put (WS' := [(b, .inr (2, [.int ns, .int le, .ref va])), (va, .inl (kv, 24, .inl vf0))]) X Z 0 rfl rfl (fun w h => List.mem_cons_of_mem _ (List.mem_append_right _ h)) tyX2 tyX2_ok nmX2 0 rfl (zz_m 1 rfl) rfl rfl rfl rfl dX2_become_2 rfl (fun H1 locs2 Z3 => ?_)
  clear Z
  refine lv_aload_n hx hb dX2_become_5 rfl (lv_at hl 0 rfl) ?_
  refine lv_iload_n hx hb dX2_become_6 rfl (lv_at hl 2 rfl) ?_
  refine lv_iconst (v := 0) hx hb dX2_become_7 (by decide) ?_
  refine lv_bipush (v := 24) hx hb dX2_become_8 (by decide) ?_
  refine zz_ci (WC := []) (TC := []) (WR := [(b, .inr (2, [.int ns, .int le, .ref va])), (va, .inl (kv, 24, .inl vf0))]) (TR := [(kv, .int)]) (k := 0) (n := 0) Z3 [] [0, 1] [] [0] rfl rfl (by decide +kernel) (by decide +kernel) (by decide +kernel) rfl rfl (fun Zc => va_runSN (As := [.int nl, .int 0, .int 24]) (rest := [.ref b]) X (c_held l D nl 0 24 H1.size) ⟨va_cnB 3 hts gX2_become_X6_held_n19 rfl rfl rfl (zz_nw (q := (RX2, 19, yX6_held, RX6)) Z3.2.2.2.2.2 9 rfl) (hts _ (zz_m 5 rfl)) zh_X6_held ⟨Nat.le_of_ble_eq_true rfl, Nat.le_of_ble_eq_true rfl⟩, hts _ (zz_m 4 rfl), trivial⟩ (zz_pS Zc) rfl rfl hl.1 rfl (lv_room (Nat.le_of_ble_eq_true rfl)) dX2_become_10 ⟨Nat.le_of_ble_eq_true rfl, Nat.le_of_ble_eq_true rfl⟩) rfl rfl (fun r3 u1 H4 locs5 hw2 Z6 => ?_)
  clear Z3
  subst r3
  have Z7 : zz_S D A s [(b, .inr (2, [.int ns, .int le, .ref va])), (va, .inl (kv, 24, .inl vf0))] [(kv, .int)] H4 locs5 := Z6
  clear Z6
  refine zz_put (WS' := [(b, .inr (2, [.int ns, .int (zz_held nl 0 24), .ref va])), (va, .inl (kv, 24, .inl vf0))]) X Z7 0 rfl rfl (fun w h => List.mem_cons_of_mem _ (List.mem_append_right _ h)) tyX2 tyX2_ok nmX2 1 rfl (zz_m 2 rfl) rfl rfl rfl rfl dX2_become_13 rfl (fun H8 locs9 Z10 => ?_)
  clear Z7
  refine lv_iconst (v := 0) hx hb dX2_become_16 (by decide) ?_
  refine lv_istore_n (lv' := [(3, .int 0), (0, .ref b), (1, .int ns), (2, .int nl)]) hx hb dX2_become_17 rfl hl (by decide) rfl (fun ls11 hl12 => ?_)
  clear hl
  have loop : ∀ (k i : Nat) (vf : (Nat → Int32)), i + k = 24 → True → ∀ (Hq : Heap) (Lq : List Loc) (lq : Array Slot), zz_S D A s [(b, .inr (2, [.int ns, .int (zz_held nl 0 24), .ref va])), (va, .inl (kv, 24, .inl vf))] [(kv, .int)] Hq Lq → lv_has lq 4 [(3, .int (nI i)), (0, .ref b), (1, .int ns), (2, .int nl)] → W p l e (headSpec wsX2_become { frames := 2, cells := 0, slots := 0, locals := 46 }).room s m (List.toArray [.ref b, .int ns, .int nl]) below meth c Hq Lq 0 0 (MQ below (va_Qv (fun (f9 : (Nat → Int32)) => True) (fun u t => zz_B D A ((fun (f9 : (Nat → Int32)) => [(b, .inr (2, [.int ns, .int (zz_held nl 0 24), .ref va])), (va, .inl (kv, 24, .inl f9))]) u) ((fun (f9 : (Nat → Int32)) => [(kv, .int)]) u) t) A) (List.toArray [.ref b, .int ns, .int nl]) s 0 0 A) (F0 m 18 lq []) := by
    intro k
    induction k with
    | zero =>
        intro i vf hik hinv H13 locs14 ls15 Z16 hl17
        refine lv_iload_n hx hb dX2_become_18 rfl (lv_at hl17 0 rfl) ?_
        refine lv_bipush (v := 24) hx hb dX2_become_19 (by decide) ?_
        refine lv_icmp_ge (tgt := 37) hx hb dX2_become_21 (by decide) (fun _ => ?_) (fun h => absurd (nI_le (a := 24) (b := i) (by omega) (by omega)) h)
        exact zz_vret X hr hlk Z16 (vf) trivial [0, 1] [0] (by decide +kernel) rfl rfl dX2_become_37
    | succ k ih =>
        intro i vf hik hinv H18 locs19 ls20 Z21 hl22
        refine lv_iload_n hx hb dX2_become_18 rfl (lv_at hl22 0 rfl) ?_
        refine lv_bipush (v := 24) hx hb dX2_become_19 (by decide) ?_
        refine lv_icmp_ge (tgt := 37) hx hb dX2_become_21 (by decide) (fun h => absurd h (nI_ge (a := i) (b := 24) (by omega) (by omega))) (fun _ => ?_)
        refine lv_aload_n hx hb dX2_become_24 rfl (lv_at hl22 1 rfl) ?_
        refine zz_get X Z21 0 rfl rfl (fun w h => List.mem_cons_of_mem _ (List.mem_append_right _ h)) 2 rfl (zz_m 3 rfl) rfl dX2_become_25 ?_
        refine lv_iload_n hx hb dX2_become_28 rfl (lv_at hl22 0 rfl) ?_
        refine lv_iconst (v := 0) hx hb dX2_become_29 (by decide) ?_
        refine zz_istN (WS' := fun f4 => [(b, .inr (2, [.int ns, .int (zz_held nl 0 24), .ref va])), (va, .inl (kv, 24, .inl f4))]) X Z21 1 0 rfl rfl (vp_in_nI (n := i) (N := 24) (by omega) (by omega)) dX2_become_30 (fun _ => rfl) (fun f4 ef5 H23 locs24 Z25 => ?_)
        clear Z21
        refine lv_iinc (v := nI (i + 1)) (lv' := [(3, .int (nI (i + 1))), (0, .ref b), (1, .int ns), (2, .int nl)]) hx hb dX2_become_31 hl22 (k := 0) rfl (nI_1 i) (by decide) rfl (fun ls26 hl27 => ?_)
        clear hl22
        refine lv_goto (tgt := 18) hx hb dX2_become_34 (by decide) ?_
        exact ih (i + 1) f4 (by omega) trivial _ _ _ Z25 (lv_sub hl27 [0, 1, 2, 3] rfl)
  exact loop 24 0 vf0 (by omega) trivial _ _ _ Z10 hl12

set_option maxHeartbeats 4000000 in
set_option maxRecDepth 100000 in
theorem c6_sheet (l : Launch) (D : va_G) (x : Nat) (tx0 : Nat) (nb : Nat) (tb : Nat) (ib : Nat) (ah : Nat) (tp : Nat) (rd : Nat) (sh : Nat) (sl : Nat) (wt : Nat) (ksh : ClassId) (shf : (Nat → Option Nat)) (h0 : Nat) (h1 : Nat) (h2 : Nat) (h3 : Nat) (hv0 : Nat) (hv1 : Nat) (hv2 : Nat) (hv3 : Nat) (khv0 : ClassId) (khv1 : ClassId) (khv2 : ClassId) (khv3 : ClassId) (hvf0 : (Nat → Int32)) (hvf1 : (Nat → Int32)) (hvf2 : (Nat → Int32)) (hvf3 : (Nat → Int32)) (sheet : Int32) (sort : Int32) (n : Int32) (ashf_0 : va_rf (shf 0) = .ref h0) (ashf_1 : va_rf (shf 1) = .ref h1) (ashf_2 : va_rf (shf 2) = .ref h2) (ashf_3 : va_rf (shf 3) = .ref h3) : zz_MI l yX6_sheet wsX6_sheet 3 69 0 0 D [.ref x, .int sheet, .int sort, .int n] [(x, .inr (6, [.ref tx0, .ref nb, .ref tb, .ref ib, .ref ah, .ref tp, .ref rd, .ref sh, .ref sl, .ref wt, .int 0, .int 0, .int 0, .int 0, .int 0])), (sh, .inl (ksh, 4, .inr (.inr (.inr (.inr shf))))), (h0, .inr (2, [.int (-1), .int 0, .ref hv0])), (h1, .inr (2, [.int (-1), .int 0, .ref hv1])), (h2, .inr (2, [.int (-1), .int 0, .ref hv2])), (h3, .inr (2, [.int (-1), .int 0, .ref hv3])), (hv0, .inl (khv0, 24, .inl hvf0)), (hv1, .inl (khv1, 24, .inl hvf1)), (hv2, .inl (khv2, 24, .inl hvf2)), (hv3, .inl (khv3, 24, .inl hvf3))] [(ksh, .object RX2), (khv0, .int), (khv1, .int), (khv2, .int), (khv3, .int)] (fun (r : Int32) (u : Unit) => r = sp_sheet sheet sort n) (fun (u : Unit) => []) (fun (u : Unit) => []) := by
  intro sz
  refine Met.ofW (cc := cX6_sheet) (maxL := 4) (ret := (some .int)) (by decide) rfl ?_
  intro p e s m args below meth c s₁ B hml hv
  obtain ⟨rfl, hC⟩ := hv
  have hx := B.exec
  have hb := B.bytes
  have hr := B.returns
  have hts := atoms_spec (ws := wsX6_sheet) B.pre
  have hown : s.vm.findClass RX6 = some m.cls := findClass_of_methodNamed B.named
  have hlk := B.notSynchronized
  have X : CallFix p m c cX6_sheet 4 s _ wsX6_sheet RX6 := ⟨hx, hb, hml, hown, hts⟩
  have Z := zz_enter hC
  generalize va_A [(x, .inr (6, [.ref tx0, .ref nb, .ref tb, .ref ib, .ref ah, .ref tp, .ref rd, .ref sh, .ref sl, .ref wt, .int 0, .int 0, .int 0, .int 0, .int 0])), (sh, .inl (ksh, 4, .inr (.inr (.inr (.inr shf))))), (h0, .inr (2, [.int (-1), .int 0, .ref hv0])), (h1, .inr (2, [.int (-1), .int 0, .ref hv1])), (h2, .inr (2, [.int (-1), .int 0, .ref hv2])), (h3, .inr (2, [.int (-1), .int 0, .ref hv3])), (hv0, .inl (khv0, 24, .inl hvf0)), (hv1, .inl (khv1, 24, .inl hvf1)), (hv2, .inl (khv2, 24, .inl hvf2)), (hv3, .inl (khv3, 24, .inl hvf3))] sz = A at Z ⊢
  have hl := lv_entry ([.ref x, .int sheet, .int sort, .int n]) (n := 4) (Nat.le_of_ble_eq_true rfl)
  rw [lg_entry_eq]
  generalize (lg_sl ([.ref x, .int sheet, .int sort, .int n]) ++ List.replicate (4 - (lg_sl ([.ref x, .int sheet, .int sort, .int n])).length) Slot.unset).toArray = ls at hl ⊢
  have hl : lv_has ls 4 [(0, .ref x), (1, .int sheet), (2, .int sort), (3, .int n)] := hl
  refine lv_iload_n hx hb dX6_sheet_0 rfl (lv_at hl 1 rfl) ?_
  refine zz_ci (WC := []) (TC := []) (WR := [(x, .inr (6, [.ref tx0, .ref nb, .ref tb, .ref ib, .ref ah, .ref tp, .ref rd, .ref sh, .ref sl, .ref wt, .int 0, .int 0, .int 0, .int 0, .int 0])), (sh, .inl (ksh, 4, .inr (.inr (.inr (.inr shf))))), (h0, .inr (2, [.int (-1), .int 0, .ref hv0])), (h1, .inr (2, [.int (-1), .int 0, .ref hv1])), (h2, .inr (2, [.int (-1), .int 0, .ref hv2])), (h3, .inr (2, [.int (-1), .int 0, .ref hv3])), (hv0, .inl (khv0, 24, .inl hvf0)), (hv1, .inl (khv1, 24, .inl hvf1)), (hv2, .inl (khv2, 24, .inl hvf2)), (hv3, .inl (khv3, 24, .inl hvf3))]) (TR := [(ksh, .object RX2), (khv0, .int), (khv1, .int), (khv2, .int), (khv3, .int)]) (k := 0) (n := 0) Z [] [0, 1, 2, 3, 4, 5, 6, 7, 8, 9] [] [0, 1, 2, 3, 4] rfl rfl (by decide +kernel) (by decide +kernel) (by decide +kernel) rfl rfl (fun Zc => va_runS (As := [.int sheet]) (rest := []) X (c_isSheet l D sheet s.heap.size) (va_cwS 1 hts gX6_sheet_X6_isSheet rfl rfl rfl zh_X6_isSheet ⟨Nat.le_of_ble_eq_true rfl, Nat.le_of_ble_eq_true rfl⟩) (zz_pS Zc) rfl rfl hl.1 rfl (lv_room (Nat.le_of_ble_eq_true rfl)) dX6_sheet_1 ⟨Nat.le_of_ble_eq_true rfl, Nat.le_of_ble_eq_true rfl⟩) rfl rfl (fun r3 u1 H1 locs2 hw2 Z3 => ?_)
  clear Z
  subst r3
  have Z4 : zz_S D A s [(x, .inr (6, [.ref tx0, .ref nb, .ref tb, .ref ib, .ref ah, .ref tp, .ref rd, .ref sh, .ref sl, .ref wt, .int 0, .int 0, .int 0, .int 0, .int 0])), (sh, .inl (ksh, 4, .inr (.inr (.inr (.inr shf))))), (h0, .inr (2, [.int (-1), .int 0, .ref hv0])), (h1, .inr (2, [.int (-1), .int 0, .ref hv1])), (h2, .inr (2, [.int (-1), .int 0, .ref hv2])), (h3, .inr (2, [.int (-1), .int 0, .ref hv3])), (hv0, .inl (khv0, 24, .inl hvf0)), (hv1, .inl (khv1, 24, .inl hvf1)), (hv2, .inl (khv2, 24, .inl hvf2)), (hv3, .inl (khv3, 24, .inl hvf3))] [(ksh, .object RX2), (khv0, .int), (khv1, .int), (khv2, .int), (khv3, .int)] H1 locs2 := Z3
  clear Z3
  by_cases w4 : 0 ≤ sheet ∧ sheet ≤ 3
  · obtain ⟨j, hj, e5⟩ := zz_rng 3 w4 (by decide)
    rcases (show j = 0 ∨ j = 1 ∨ j = 2 ∨ j = 3 by omega) with rfl | rfl | rfl | rfl
    · have e5 : sheet = 0 := e5
      subst e5
      refine zz_v (v := 1) (by decide) ?_
      refine lv_if_eq (tgt := 16) hx hb dX6_sheet_4 (by decide) (fun h => absurd h (by decide)) (fun _ => ?_)
      refine lv_iload_n hx hb dX6_sheet_7 rfl (lv_at hl 2 rfl) ?_
      refine lv_iconst (v := (-1)) hx hb dX6_sheet_8 (by decide) ?_
      refine lv_iconst (v := 1) hx hb dX6_sheet_9 (by decide) ?_
      refine zz_ci (WC := []) (TC := []) (WR := [(x, .inr (6, [.ref tx0, .ref nb, .ref tb, .ref ib, .ref ah, .ref tp, .ref rd, .ref sh, .ref sl, .ref wt, .int 0, .int 0, .int 0, .int 0, .int 0])), (sh, .inl (ksh, 4, .inr (.inr (.inr (.inr shf))))), (h0, .inr (2, [.int (-1), .int 0, .ref hv0])), (h1, .inr (2, [.int (-1), .int 0, .ref hv1])), (h2, .inr (2, [.int (-1), .int 0, .ref hv2])), (h3, .inr (2, [.int (-1), .int 0, .ref hv3])), (hv0, .inl (khv0, 24, .inl hvf0)), (hv1, .inl (khv1, 24, .inl hvf1)), (hv2, .inl (khv2, 24, .inl hvf2)), (hv3, .inl (khv3, 24, .inl hvf3))]) (TR := [(ksh, .object RX2), (khv0, .int), (khv1, .int), (khv2, .int), (khv3, .int)]) (k := 0) (n := 0) Z4 [] [0, 1, 2, 3, 4, 5, 6, 7, 8, 9] [] [0, 1, 2, 3, 4] rfl rfl (by decide +kernel) (by decide +kernel) (by decide +kernel) rfl rfl (fun Zc => va_runS (As := [.int sort, .int (-1), .int 1]) (rest := []) X (c_within l D sort (-1) 1 H1.size) (va_cwS 3 hts gX6_sheet_X6_within rfl rfl rfl zh_X6_within ⟨Nat.le_of_ble_eq_true rfl, Nat.le_of_ble_eq_true rfl⟩) (zz_pS Zc) rfl rfl hl.1 rfl (lv_room (Nat.le_of_ble_eq_true rfl)) dX6_sheet_10 ⟨Nat.le_of_ble_eq_true rfl, Nat.le_of_ble_eq_true rfl⟩) rfl rfl (fun r8 u6 H5 locs6 hw7 Z7 => ?_)
      clear Z4
      subst r8
      have Z8 : zz_S D A s [(x, .inr (6, [.ref tx0, .ref nb, .ref tb, .ref ib, .ref ah, .ref tp, .ref rd, .ref sh, .ref sl, .ref wt, .int 0, .int 0, .int 0, .int 0, .int 0])), (sh, .inl (ksh, 4, .inr (.inr (.inr (.inr shf))))), (h0, .inr (2, [.int (-1), .int 0, .ref hv0])), (h1, .inr (2, [.int (-1), .int 0, .ref hv1])), (h2, .inr (2, [.int (-1), .int 0, .ref hv2])), (h3, .inr (2, [.int (-1), .int 0, .ref hv3])), (hv0, .inl (khv0, 24, .inl hvf0)), (hv1, .inl (khv1, 24, .inl hvf1)), (hv2, .inl (khv2, 24, .inl hvf2)), (hv3, .inl (khv3, 24, .inl hvf3))] [(ksh, .object RX2), (khv0, .int), (khv1, .int), (khv2, .int), (khv3, .int)] H5 locs6 := Z7
      clear Z7
      by_cases w9 : (-1) ≤ sort ∧ sort ≤ 1
      · refine zz_v (v := 1) (zz_wiT w9) ?_
        refine lv_if_ne (tgt := 19) hx hb dX6_sheet_13 (by decide) (fun _ => ?_) (fun h => absurd h (by decide))
        refine lv_iload_n hx hb dX6_sheet_19 rfl (lv_at hl 2 rfl) ?_
        refine lv_iconst (v := (-1)) hx hb dX6_sheet_20 (by decide) ?_
        refine lv_icmp_ne (tgt := 37) hx hb dX6_sheet_21 (by decide) (fun b10 => ?_) (fun b10 => ?_)
        · refine lv_iload_n hx hb dX6_sheet_37 rfl (lv_at hl 3 rfl) ?_
          refine lv_bipush (v := 24) hx hb dX6_sheet_38 (by decide) ?_
          refine lv_icmp_le (tgt := 46) hx hb dX6_sheet_40 (by decide) (fun b11 => ?_) (fun b11 => ?_)
          · refine lv_iload_n hx hb dX6_sheet_46 rfl (lv_at hl 3 rfl) ?_
            refine lv_if_ge (tgt := 54) hx hb dX6_sheet_47 (by decide) (fun b12 => ?_) (fun b12 => ?_)
            · refine lv_aload_n hx hb dX6_sheet_54 rfl (lv_at hl 0 rfl) ?_
              refine zz_get X Z8 0 rfl rfl (fun w h => List.mem_cons_of_mem _ (List.mem_append_left _ (List.mem_append_right _ h))) 7 rfl (zz_m 2 rfl) rfl dX6_sheet_55 ?_
              refine lv_iload_n hx hb dX6_sheet_58 rfl (lv_at hl 1 rfl) ?_
              refine zz_ald X Z8 1 0 rfl rfl (zz_in 0 4 rfl) (v := .ref h0) ashf_0 dX6_sheet_59 ?_
              refine lv_iload_n hx hb dX6_sheet_60 rfl (lv_at hl 2 rfl) ?_
              refine lv_iload_n hx hb dX6_sheet_61 rfl (lv_at hl 3 rfl) ?_
              refine zz_cv (WC := [(h0, .inr (2, [.int (-1), .int 0, .ref hv0])), (hv0, .inl (khv0, 24, .inl hvf0))]) (TC := [(khv0, .int)]) (WR := [(x, .inr (6, [.ref tx0, .ref nb, .ref tb, .ref ib, .ref ah, .ref tp, .ref rd, .ref sh, .ref sl, .ref wt, .int 0, .int 0, .int 0, .int 0, .int 0])), (sh, .inl (ksh, 4, .inr (.inr (.inr (.inr shf))))), (h1, .inr (2, [.int (-1), .int 0, .ref hv1])), (h2, .inr (2, [.int (-1), .int 0, .ref hv2])), (h3, .inr (2, [.int (-1), .int 0, .ref hv3])), (hv1, .inl (khv1, 24, .inl hvf1)), (hv2, .inl (khv2, 24, .inl hvf2)), (hv3, .inl (khv3, 24, .inl hvf3))]) (TR := [(ksh, .object RX2), (khv1, .int), (khv2, .int), (khv3, .int)]) (k := 0) (n := 0) Z8 [2, 6] [0, 1, 3, 4, 5, 7, 8, 9] [1] [0, 2, 3, 4] rfl rfl (by decide +kernel) (by decide +kernel) (by decide +kernel) rfl rfl (fun Zc => va_runV (As := [.int sort, .int n]) (rest := []) X (c_become l D h0 (-1) 0 hv0 khv0 hvf0 sort n H5.size) (cwV 2 hts gX6_sheet_X2_become rfl rfl rfl ⟨rfl, zh_X2_become⟩ ⟨Nat.le_of_ble_eq_true rfl, Nat.le_of_ble_eq_true rfl⟩) (zz_pV (ci := 2) Zc 0 rfl rfl) rfl rfl hl.1 rfl (lv_room (Nat.le_of_ble_eq_true rfl)) dX6_sheet_62 ⟨Nat.le_of_ble_eq_true rfl, Nat.le_of_ble_eq_true rfl⟩) rfl rfl (fun u13 H9 locs10 hw14 Z11 => ?_)
              clear Z8
              obtain ⟨f916, rfl⟩ : ∃ z, z = u13 := ⟨_, rfl⟩
              try dsimp only at hw14 Z11
              have Z12 : zz_S D A s [(x, .inr (6, [.ref tx0, .ref nb, .ref tb, .ref ib, .ref ah, .ref tp, .ref rd, .ref sh, .ref sl, .ref wt, .int 0, .int 0, .int 0, .int 0, .int 0])), (sh, .inl (ksh, 4, .inr (.inr (.inr (.inr shf))))), (h1, .inr (2, [.int (-1), .int 0, .ref hv1])), (h2, .inr (2, [.int (-1), .int 0, .ref hv2])), (h3, .inr (2, [.int (-1), .int 0, .ref hv3])), (hv1, .inl (khv1, 24, .inl hvf1)), (hv2, .inl (khv2, 24, .inl hvf2)), (hv3, .inl (khv3, 24, .inl hvf3)), (h0, .inr (2, [.int sort, .int (zz_held n 0 24), .ref hv0])), (hv0, .inl (khv0, 24, .inl f916))] [(ksh, .object RX2), (khv1, .int), (khv2, .int), (khv3, .int), (khv0, .int)] H9 locs10 := Z11
              clear Z11
              refine lv_iload_n hx hb dX6_sheet_65 rfl (lv_at hl 3 rfl) ?_
              exact zz_iret X hr hlk Z12 () (by simp [sp_sheet, w9, b10, (show ¬ (24 < n) from Int32.not_lt.mpr b11), (show ¬ (n < 0) from Int32.not_lt.mpr b12)]) [] [] (by decide +kernel) rfl rfl dX6_sheet_66
            · refine lv_ldcw (v := (-1000000014)) hx hb hown (hts _ (zz_m 3 rfl)) dX6_sheet_50 ?_
              exact zz_iret X hr hlk Z8 () (by simp [sp_sheet, w9, b10, (show ¬ (24 < n) from Int32.not_lt.mpr b11), (show (n < 0) from Int32.not_le.mp b12)]) [] [] (by decide +kernel) rfl rfl dX6_sheet_53
          · refine lv_ldc (v := (-1000000001)) hx hb hown (hts _ (zz_m 1 rfl)) dX6_sheet_43 ?_
            exact zz_iret X hr hlk Z8 () (by simp [sp_sheet, w9, b10, (show (24 < n) from Int32.not_le.mp b11)]) [] [] (by decide +kernel) rfl rfl dX6_sheet_45
        · refine lv_aload_n hx hb dX6_sheet_24 rfl (lv_at hl 0 rfl) ?_
          refine zz_get X Z8 0 rfl rfl (fun w h => List.mem_cons_of_mem _ (List.mem_append_left _ (List.mem_append_right _ h))) 7 rfl (zz_m 2 rfl) rfl dX6_sheet_25 ?_
          refine lv_iload_n hx hb dX6_sheet_28 rfl (lv_at hl 1 rfl) ?_
          refine zz_ald X Z8 1 0 rfl rfl (zz_in 0 4 rfl) (v := .ref h0) ashf_0 dX6_sheet_29 ?_
          refine lv_iconst (v := (-1)) hx hb dX6_sheet_30 (by decide) ?_
          refine lv_iconst (v := 0) hx hb dX6_sheet_31 (by decide) ?_
          refine zz_cv (WC := [(h0, .inr (2, [.int (-1), .int 0, .ref hv0])), (hv0, .inl (khv0, 24, .inl hvf0))]) (TC := [(khv0, .int)]) (WR := [(x, .inr (6, [.ref tx0, .ref nb, .ref tb, .ref ib, .ref ah, .ref tp, .ref rd, .ref sh, .ref sl, .ref wt, .int 0, .int 0, .int 0, .int 0, .int 0])), (sh, .inl (ksh, 4, .inr (.inr (.inr (.inr shf))))), (h1, .inr (2, [.int (-1), .int 0, .ref hv1])), (h2, .inr (2, [.int (-1), .int 0, .ref hv2])), (h3, .inr (2, [.int (-1), .int 0, .ref hv3])), (hv1, .inl (khv1, 24, .inl hvf1)), (hv2, .inl (khv2, 24, .inl hvf2)), (hv3, .inl (khv3, 24, .inl hvf3))]) (TR := [(ksh, .object RX2), (khv1, .int), (khv2, .int), (khv3, .int)]) (k := 0) (n := 0) Z8 [2, 6] [0, 1, 3, 4, 5, 7, 8, 9] [1] [0, 2, 3, 4] rfl rfl (by decide +kernel) (by decide +kernel) (by decide +kernel) rfl rfl (fun Zc => va_runV (As := [.int (-1), .int 0]) (rest := []) X (c_become l D h0 (-1) 0 hv0 khv0 hvf0 (-1) 0 H5.size) (cwV 2 hts gX6_sheet_X2_become rfl rfl rfl ⟨rfl, zh_X2_become⟩ ⟨Nat.le_of_ble_eq_true rfl, Nat.le_of_ble_eq_true rfl⟩) (zz_pV (ci := 2) Zc 0 rfl rfl) rfl rfl hl.1 rfl (lv_room (Nat.le_of_ble_eq_true rfl)) dX6_sheet_32 ⟨Nat.le_of_ble_eq_true rfl, Nat.le_of_ble_eq_true rfl⟩) rfl rfl (fun u17 H13 locs14 hw18 Z15 => ?_)
          clear Z8
          obtain ⟨f920, rfl⟩ : ∃ z, z = u17 := ⟨_, rfl⟩
          try dsimp only at hw18 Z15
          have Z16 : zz_S D A s [(x, .inr (6, [.ref tx0, .ref nb, .ref tb, .ref ib, .ref ah, .ref tp, .ref rd, .ref sh, .ref sl, .ref wt, .int 0, .int 0, .int 0, .int 0, .int 0])), (sh, .inl (ksh, 4, .inr (.inr (.inr (.inr shf))))), (h1, .inr (2, [.int (-1), .int 0, .ref hv1])), (h2, .inr (2, [.int (-1), .int 0, .ref hv2])), (h3, .inr (2, [.int (-1), .int 0, .ref hv3])), (hv1, .inl (khv1, 24, .inl hvf1)), (hv2, .inl (khv2, 24, .inl hvf2)), (hv3, .inl (khv3, 24, .inl hvf3)), (h0, .inr (2, [.int (-1), .int (zz_held 0 0 24), .ref hv0])), (hv0, .inl (khv0, 24, .inl f920))] [(ksh, .object RX2), (khv1, .int), (khv2, .int), (khv3, .int), (khv0, .int)] H13 locs14 := Z15
          clear Z15
          refine lv_iconst (v := 0) hx hb dX6_sheet_35 (by decide) ?_
          exact zz_iret X hr hlk Z16 () (by simp [sp_sheet, w9, b10]) [] [] (by decide +kernel) rfl rfl dX6_sheet_36
      · refine zz_v (v := 0) (zz_wiF w9) ?_
        refine lv_if_ne (tgt := 19) hx hb dX6_sheet_13 (by decide) (fun h => absurd (by decide) h) (fun _ => ?_)
        refine lv_ldc (v := (-1000000001)) hx hb hown (hts _ (zz_m 1 rfl)) dX6_sheet_16 ?_
        exact zz_iret X hr hlk Z8 () (by simp [sp_sheet, w9]) [] [] (by decide +kernel) rfl rfl dX6_sheet_18
    · have e5 : sheet = 1 := e5
      subst e5
      refine zz_v (v := 1) (by decide) ?_
      refine lv_if_eq (tgt := 16) hx hb dX6_sheet_4 (by decide) (fun h => absurd h (by decide)) (fun _ => ?_)
      refine lv_iload_n hx hb dX6_sheet_7 rfl (lv_at hl 2 rfl) ?_
      refine lv_iconst (v := (-1)) hx hb dX6_sheet_8 (by decide) ?_
      refine lv_iconst (v := 1) hx hb dX6_sheet_9 (by decide) ?_
      refine zz_ci (WC := []) (TC := []) (WR := [(x, .inr (6, [.ref tx0, .ref nb, .ref tb, .ref ib, .ref ah, .ref tp, .ref rd, .ref sh, .ref sl, .ref wt, .int 0, .int 0, .int 0, .int 0, .int 0])), (sh, .inl (ksh, 4, .inr (.inr (.inr (.inr shf))))), (h0, .inr (2, [.int (-1), .int 0, .ref hv0])), (h1, .inr (2, [.int (-1), .int 0, .ref hv1])), (h2, .inr (2, [.int (-1), .int 0, .ref hv2])), (h3, .inr (2, [.int (-1), .int 0, .ref hv3])), (hv0, .inl (khv0, 24, .inl hvf0)), (hv1, .inl (khv1, 24, .inl hvf1)), (hv2, .inl (khv2, 24, .inl hvf2)), (hv3, .inl (khv3, 24, .inl hvf3))]) (TR := [(ksh, .object RX2), (khv0, .int), (khv1, .int), (khv2, .int), (khv3, .int)]) (k := 0) (n := 0) Z4 [] [0, 1, 2, 3, 4, 5, 6, 7, 8, 9] [] [0, 1, 2, 3, 4] rfl rfl (by decide +kernel) (by decide +kernel) (by decide +kernel) rfl rfl (fun Zc => va_runS (As := [.int sort, .int (-1), .int 1]) (rest := []) X (c_within l D sort (-1) 1 H1.size) (va_cwS 3 hts gX6_sheet_X6_within rfl rfl rfl zh_X6_within ⟨Nat.le_of_ble_eq_true rfl, Nat.le_of_ble_eq_true rfl⟩) (zz_pS Zc) rfl rfl hl.1 rfl (lv_room (Nat.le_of_ble_eq_true rfl)) dX6_sheet_10 ⟨Nat.le_of_ble_eq_true rfl, Nat.le_of_ble_eq_true rfl⟩) rfl rfl (fun r23 u21 H17 locs18 hw22 Z19 => ?_)
      clear Z4
      subst r23
      have Z20 : zz_S D A s [(x, .inr (6, [.ref tx0, .ref nb, .ref tb, .ref ib, .ref ah, .ref tp, .ref rd, .ref sh, .ref sl, .ref wt, .int 0, .int 0, .int 0, .int 0, .int 0])), (sh, .inl (ksh, 4, .inr (.inr (.inr (.inr shf))))), (h0, .inr (2, [.int (-1), .int 0, .ref hv0])), (h1, .inr (2, [.int (-1), .int 0, .ref hv1])), (h2, .inr (2, [.int (-1), .int 0, .ref hv2])), (h3, .inr (2, [.int (-1), .int 0, .ref hv3])), (hv0, .inl (khv0, 24, .inl hvf0)), (hv1, .inl (khv1, 24, .inl hvf1)), (hv2, .inl (khv2, 24, .inl hvf2)), (hv3, .inl (khv3, 24, .inl hvf3))] [(ksh, .object RX2), (khv0, .int), (khv1, .int), (khv2, .int), (khv3, .int)] H17 locs18 := Z19
      clear Z19
      by_cases w24 : (-1) ≤ sort ∧ sort ≤ 1
      · refine zz_v (v := 1) (zz_wiT w24) ?_
        refine lv_if_ne (tgt := 19) hx hb dX6_sheet_13 (by decide) (fun _ => ?_) (fun h => absurd h (by decide))
        refine lv_iload_n hx hb dX6_sheet_19 rfl (lv_at hl 2 rfl) ?_
        refine lv_iconst (v := (-1)) hx hb dX6_sheet_20 (by decide) ?_
        refine lv_icmp_ne (tgt := 37) hx hb dX6_sheet_21 (by decide) (fun b25 => ?_) (fun b25 => ?_)
        · refine lv_iload_n hx hb dX6_sheet_37 rfl (lv_at hl 3 rfl) ?_
          refine lv_bipush (v := 24) hx hb dX6_sheet_38 (by decide) ?_
          refine lv_icmp_le (tgt := 46) hx hb dX6_sheet_40 (by decide) (fun b26 => ?_) (fun b26 => ?_)
          · refine lv_iload_n hx hb dX6_sheet_46 rfl (lv_at hl 3 rfl) ?_
            refine lv_if_ge (tgt := 54) hx hb dX6_sheet_47 (by decide) (fun b27 => ?_) (fun b27 => ?_)
            · refine lv_aload_n hx hb dX6_sheet_54 rfl (lv_at hl 0 rfl) ?_
              refine zz_get X Z20 0 rfl rfl (fun w h => List.mem_cons_of_mem _ (List.mem_append_left _ (List.mem_append_right _ h))) 7 rfl (zz_m 2 rfl) rfl dX6_sheet_55 ?_
              refine lv_iload_n hx hb dX6_sheet_58 rfl (lv_at hl 1 rfl) ?_
              refine zz_ald X Z20 1 0 rfl rfl (zz_in 1 4 rfl) (v := .ref h1) ashf_1 dX6_sheet_59 ?_
              refine lv_iload_n hx hb dX6_sheet_60 rfl (lv_at hl 2 rfl) ?_
              refine lv_iload_n hx hb dX6_sheet_61 rfl (lv_at hl 3 rfl) ?_
              refine zz_cv (WC := [(h1, .inr (2, [.int (-1), .int 0, .ref hv1])), (hv1, .inl (khv1, 24, .inl hvf1))]) (TC := [(khv1, .int)]) (WR := [(x, .inr (6, [.ref tx0, .ref nb, .ref tb, .ref ib, .ref ah, .ref tp, .ref rd, .ref sh, .ref sl, .ref wt, .int 0, .int 0, .int 0, .int 0, .int 0])), (sh, .inl (ksh, 4, .inr (.inr (.inr (.inr shf))))), (h0, .inr (2, [.int (-1), .int 0, .ref hv0])), (h2, .inr (2, [.int (-1), .int 0, .ref hv2])), (h3, .inr (2, [.int (-1), .int 0, .ref hv3])), (hv0, .inl (khv0, 24, .inl hvf0)), (hv2, .inl (khv2, 24, .inl hvf2)), (hv3, .inl (khv3, 24, .inl hvf3))]) (TR := [(ksh, .object RX2), (khv0, .int), (khv2, .int), (khv3, .int)]) (k := 0) (n := 0) Z20 [3, 7] [0, 1, 2, 4, 5, 6, 8, 9] [2] [0, 1, 3, 4] rfl rfl (by decide +kernel) (by decide +kernel) (by decide +kernel) rfl rfl (fun Zc => va_runV (As := [.int sort, .int n]) (rest := []) X (c_become l D h1 (-1) 0 hv1 khv1 hvf1 sort n H17.size) (cwV 2 hts gX6_sheet_X2_become rfl rfl rfl ⟨rfl, zh_X2_become⟩ ⟨Nat.le_of_ble_eq_true rfl, Nat.le_of_ble_eq_true rfl⟩) (zz_pV (ci := 2) Zc 0 rfl rfl) rfl rfl hl.1 rfl (lv_room (Nat.le_of_ble_eq_true rfl)) dX6_sheet_62 ⟨Nat.le_of_ble_eq_true rfl, Nat.le_of_ble_eq_true rfl⟩) rfl rfl (fun u28 H21 locs22 hw29 Z23 => ?_)
              clear Z20
              obtain ⟨f931, rfl⟩ : ∃ z, z = u28 := ⟨_, rfl⟩
              try dsimp only at hw29 Z23
              have Z24 : zz_S D A s [(x, .inr (6, [.ref tx0, .ref nb, .ref tb, .ref ib, .ref ah, .ref tp, .ref rd, .ref sh, .ref sl, .ref wt, .int 0, .int 0, .int 0, .int 0, .int 0])), (sh, .inl (ksh, 4, .inr (.inr (.inr (.inr shf))))), (h0, .inr (2, [.int (-1), .int 0, .ref hv0])), (h2, .inr (2, [.int (-1), .int 0, .ref hv2])), (h3, .inr (2, [.int (-1), .int 0, .ref hv3])), (hv0, .inl (khv0, 24, .inl hvf0)), (hv2, .inl (khv2, 24, .inl hvf2)), (hv3, .inl (khv3, 24, .inl hvf3)), (h1, .inr (2, [.int sort, .int (zz_held n 0 24), .ref hv1])), (hv1, .inl (khv1, 24, .inl f931))] [(ksh, .object RX2), (khv0, .int), (khv2, .int), (khv3, .int), (khv1, .int)] H21 locs22 := Z23
              clear Z23
              refine lv_iload_n hx hb dX6_sheet_65 rfl (lv_at hl 3 rfl) ?_
              exact zz_iret X hr hlk Z24 () (by simp [sp_sheet, w24, b25, (show ¬ (24 < n) from Int32.not_lt.mpr b26), (show ¬ (n < 0) from Int32.not_lt.mpr b27)]) [] [] (by decide +kernel) rfl rfl dX6_sheet_66
            · refine lv_ldcw (v := (-1000000014)) hx hb hown (hts _ (zz_m 3 rfl)) dX6_sheet_50 ?_
              exact zz_iret X hr hlk Z20 () (by simp [sp_sheet, w24, b25, (show ¬ (24 < n) from Int32.not_lt.mpr b26), (show (n < 0) from Int32.not_le.mp b27)]) [] [] (by decide +kernel) rfl rfl dX6_sheet_53
          · refine lv_ldc (v := (-1000000001)) hx hb hown (hts _ (zz_m 1 rfl)) dX6_sheet_43 ?_
            exact zz_iret X hr hlk Z20 () (by simp [sp_sheet, w24, b25, (show (24 < n) from Int32.not_le.mp b26)]) [] [] (by decide +kernel) rfl rfl dX6_sheet_45
        · refine lv_aload_n hx hb dX6_sheet_24 rfl (lv_at hl 0 rfl) ?_
          refine zz_get X Z20 0 rfl rfl (fun w h => List.mem_cons_of_mem _ (List.mem_append_left _ (List.mem_append_right _ h))) 7 rfl (zz_m 2 rfl) rfl dX6_sheet_25 ?_
          refine lv_iload_n hx hb dX6_sheet_28 rfl (lv_at hl 1 rfl) ?_
          refine zz_ald X Z20 1 0 rfl rfl (zz_in 1 4 rfl) (v := .ref h1) ashf_1 dX6_sheet_29 ?_
          refine lv_iconst (v := (-1)) hx hb dX6_sheet_30 (by decide) ?_
          refine lv_iconst (v := 0) hx hb dX6_sheet_31 (by decide) ?_
          refine zz_cv (WC := [(h1, .inr (2, [.int (-1), .int 0, .ref hv1])), (hv1, .inl (khv1, 24, .inl hvf1))]) (TC := [(khv1, .int)]) (WR := [(x, .inr (6, [.ref tx0, .ref nb, .ref tb, .ref ib, .ref ah, .ref tp, .ref rd, .ref sh, .ref sl, .ref wt, .int 0, .int 0, .int 0, .int 0, .int 0])), (sh, .inl (ksh, 4, .inr (.inr (.inr (.inr shf))))), (h0, .inr (2, [.int (-1), .int 0, .ref hv0])), (h2, .inr (2, [.int (-1), .int 0, .ref hv2])), (h3, .inr (2, [.int (-1), .int 0, .ref hv3])), (hv0, .inl (khv0, 24, .inl hvf0)), (hv2, .inl (khv2, 24, .inl hvf2)), (hv3, .inl (khv3, 24, .inl hvf3))]) (TR := [(ksh, .object RX2), (khv0, .int), (khv2, .int), (khv3, .int)]) (k := 0) (n := 0) Z20 [3, 7] [0, 1, 2, 4, 5, 6, 8, 9] [2] [0, 1, 3, 4] rfl rfl (by decide +kernel) (by decide +kernel) (by decide +kernel) rfl rfl (fun Zc => va_runV (As := [.int (-1), .int 0]) (rest := []) X (c_become l D h1 (-1) 0 hv1 khv1 hvf1 (-1) 0 H17.size) (cwV 2 hts gX6_sheet_X2_become rfl rfl rfl ⟨rfl, zh_X2_become⟩ ⟨Nat.le_of_ble_eq_true rfl, Nat.le_of_ble_eq_true rfl⟩) (zz_pV (ci := 2) Zc 0 rfl rfl) rfl rfl hl.1 rfl (lv_room (Nat.le_of_ble_eq_true rfl)) dX6_sheet_32 ⟨Nat.le_of_ble_eq_true rfl, Nat.le_of_ble_eq_true rfl⟩) rfl rfl (fun u32 H25 locs26 hw33 Z27 => ?_)
          clear Z20
          obtain ⟨f935, rfl⟩ : ∃ z, z = u32 := ⟨_, rfl⟩
          try dsimp only at hw33 Z27
          have Z28 : zz_S D A s [(x, .inr (6, [.ref tx0, .ref nb, .ref tb, .ref ib, .ref ah, .ref tp, .ref rd, .ref sh, .ref sl, .ref wt, .int 0, .int 0, .int 0, .int 0, .int 0])), (sh, .inl (ksh, 4, .inr (.inr (.inr (.inr shf))))), (h0, .inr (2, [.int (-1), .int 0, .ref hv0])), (h2, .inr (2, [.int (-1), .int 0, .ref hv2])), (h3, .inr (2, [.int (-1), .int 0, .ref hv3])), (hv0, .inl (khv0, 24, .inl hvf0)), (hv2, .inl (khv2, 24, .inl hvf2)), (hv3, .inl (khv3, 24, .inl hvf3)), (h1, .inr (2, [.int (-1), .int (zz_held 0 0 24), .ref hv1])), (hv1, .inl (khv1, 24, .inl f935))] [(ksh, .object RX2), (khv0, .int), (khv2, .int), (khv3, .int), (khv1, .int)] H25 locs26 := Z27
          clear Z27
          refine lv_iconst (v := 0) hx hb dX6_sheet_35 (by decide) ?_
          exact zz_iret X hr hlk Z28 () (by simp [sp_sheet, w24, b25]) [] [] (by decide +kernel) rfl rfl dX6_sheet_36
      · refine zz_v (v := 0) (zz_wiF w24) ?_
        refine lv_if_ne (tgt := 19) hx hb dX6_sheet_13 (by decide) (fun h => absurd (by decide) h) (fun _ => ?_)
        refine lv_ldc (v := (-1000000001)) hx hb hown (hts _ (zz_m 1 rfl)) dX6_sheet_16 ?_
        exact zz_iret X hr hlk Z20 () (by simp [sp_sheet, w24]) [] [] (by decide +kernel) rfl rfl dX6_sheet_18
    · have e5 : sheet = 2 := e5
      subst e5
      refine zz_v (v := 1) (by decide) ?_
      refine lv_if_eq (tgt := 16) hx hb dX6_sheet_4 (by decide) (fun h => absurd h (by decide)) (fun _ => ?_)
      refine lv_iload_n hx hb dX6_sheet_7 rfl (lv_at hl 2 rfl) ?_
      refine lv_iconst (v := (-1)) hx hb dX6_sheet_8 (by decide) ?_
      refine lv_iconst (v := 1) hx hb dX6_sheet_9 (by decide) ?_
      refine zz_ci (WC := []) (TC := []) (WR := [(x, .inr (6, [.ref tx0, .ref nb, .ref tb, .ref ib, .ref ah, .ref tp, .ref rd, .ref sh, .ref sl, .ref wt, .int 0, .int 0, .int 0, .int 0, .int 0])), (sh, .inl (ksh, 4, .inr (.inr (.inr (.inr shf))))), (h0, .inr (2, [.int (-1), .int 0, .ref hv0])), (h1, .inr (2, [.int (-1), .int 0, .ref hv1])), (h2, .inr (2, [.int (-1), .int 0, .ref hv2])), (h3, .inr (2, [.int (-1), .int 0, .ref hv3])), (hv0, .inl (khv0, 24, .inl hvf0)), (hv1, .inl (khv1, 24, .inl hvf1)), (hv2, .inl (khv2, 24, .inl hvf2)), (hv3, .inl (khv3, 24, .inl hvf3))]) (TR := [(ksh, .object RX2), (khv0, .int), (khv1, .int), (khv2, .int), (khv3, .int)]) (k := 0) (n := 0) Z4 [] [0, 1, 2, 3, 4, 5, 6, 7, 8, 9] [] [0, 1, 2, 3, 4] rfl rfl (by decide +kernel) (by decide +kernel) (by decide +kernel) rfl rfl (fun Zc => va_runS (As := [.int sort, .int (-1), .int 1]) (rest := []) X (c_within l D sort (-1) 1 H1.size) (va_cwS 3 hts gX6_sheet_X6_within rfl rfl rfl zh_X6_within ⟨Nat.le_of_ble_eq_true rfl, Nat.le_of_ble_eq_true rfl⟩) (zz_pS Zc) rfl rfl hl.1 rfl (lv_room (Nat.le_of_ble_eq_true rfl)) dX6_sheet_10 ⟨Nat.le_of_ble_eq_true rfl, Nat.le_of_ble_eq_true rfl⟩) rfl rfl (fun r38 u36 H29 locs30 hw37 Z31 => ?_)
      clear Z4
      subst r38
      have Z32 : zz_S D A s [(x, .inr (6, [.ref tx0, .ref nb, .ref tb, .ref ib, .ref ah, .ref tp, .ref rd, .ref sh, .ref sl, .ref wt, .int 0, .int 0, .int 0, .int 0, .int 0])), (sh, .inl (ksh, 4, .inr (.inr (.inr (.inr shf))))), (h0, .inr (2, [.int (-1), .int 0, .ref hv0])), (h1, .inr (2, [.int (-1), .int 0, .ref hv1])), (h2, .inr (2, [.int (-1), .int 0, .ref hv2])), (h3, .inr (2, [.int (-1), .int 0, .ref hv3])), (hv0, .inl (khv0, 24, .inl hvf0)), (hv1, .inl (khv1, 24, .inl hvf1)), (hv2, .inl (khv2, 24, .inl hvf2)), (hv3, .inl (khv3, 24, .inl hvf3))] [(ksh, .object RX2), (khv0, .int), (khv1, .int), (khv2, .int), (khv3, .int)] H29 locs30 := Z31
      clear Z31
      by_cases w39 : (-1) ≤ sort ∧ sort ≤ 1
      · refine zz_v (v := 1) (zz_wiT w39) ?_
        refine lv_if_ne (tgt := 19) hx hb dX6_sheet_13 (by decide) (fun _ => ?_) (fun h => absurd h (by decide))
        refine lv_iload_n hx hb dX6_sheet_19 rfl (lv_at hl 2 rfl) ?_
        refine lv_iconst (v := (-1)) hx hb dX6_sheet_20 (by decide) ?_
        refine lv_icmp_ne (tgt := 37) hx hb dX6_sheet_21 (by decide) (fun b40 => ?_) (fun b40 => ?_)
        · refine lv_iload_n hx hb dX6_sheet_37 rfl (lv_at hl 3 rfl) ?_
          refine lv_bipush (v := 24) hx hb dX6_sheet_38 (by decide) ?_
          refine lv_icmp_le (tgt := 46) hx hb dX6_sheet_40 (by decide) (fun b41 => ?_) (fun b41 => ?_)
          · refine lv_iload_n hx hb dX6_sheet_46 rfl (lv_at hl 3 rfl) ?_
            refine lv_if_ge (tgt := 54) hx hb dX6_sheet_47 (by decide) (fun b42 => ?_) (fun b42 => ?_)
            · refine lv_aload_n hx hb dX6_sheet_54 rfl (lv_at hl 0 rfl) ?_
              refine zz_get X Z32 0 rfl rfl (fun w h => List.mem_cons_of_mem _ (List.mem_append_left _ (List.mem_append_right _ h))) 7 rfl (zz_m 2 rfl) rfl dX6_sheet_55 ?_
              refine lv_iload_n hx hb dX6_sheet_58 rfl (lv_at hl 1 rfl) ?_
              refine zz_ald X Z32 1 0 rfl rfl (zz_in 2 4 rfl) (v := .ref h2) ashf_2 dX6_sheet_59 ?_
              refine lv_iload_n hx hb dX6_sheet_60 rfl (lv_at hl 2 rfl) ?_
              refine lv_iload_n hx hb dX6_sheet_61 rfl (lv_at hl 3 rfl) ?_
              refine zz_cv (WC := [(h2, .inr (2, [.int (-1), .int 0, .ref hv2])), (hv2, .inl (khv2, 24, .inl hvf2))]) (TC := [(khv2, .int)]) (WR := [(x, .inr (6, [.ref tx0, .ref nb, .ref tb, .ref ib, .ref ah, .ref tp, .ref rd, .ref sh, .ref sl, .ref wt, .int 0, .int 0, .int 0, .int 0, .int 0])), (sh, .inl (ksh, 4, .inr (.inr (.inr (.inr shf))))), (h0, .inr (2, [.int (-1), .int 0, .ref hv0])), (h1, .inr (2, [.int (-1), .int 0, .ref hv1])), (h3, .inr (2, [.int (-1), .int 0, .ref hv3])), (hv0, .inl (khv0, 24, .inl hvf0)), (hv1, .inl (khv1, 24, .inl hvf1)), (hv3, .inl (khv3, 24, .inl hvf3))]) (TR := [(ksh, .object RX2), (khv0, .int), (khv1, .int), (khv3, .int)]) (k := 0) (n := 0) Z32 [4, 8] [0, 1, 2, 3, 5, 6, 7, 9] [3] [0, 1, 2, 4] rfl rfl (by decide +kernel) (by decide +kernel) (by decide +kernel) rfl rfl (fun Zc => va_runV (As := [.int sort, .int n]) (rest := []) X (c_become l D h2 (-1) 0 hv2 khv2 hvf2 sort n H29.size) (cwV 2 hts gX6_sheet_X2_become rfl rfl rfl ⟨rfl, zh_X2_become⟩ ⟨Nat.le_of_ble_eq_true rfl, Nat.le_of_ble_eq_true rfl⟩) (zz_pV (ci := 2) Zc 0 rfl rfl) rfl rfl hl.1 rfl (lv_room (Nat.le_of_ble_eq_true rfl)) dX6_sheet_62 ⟨Nat.le_of_ble_eq_true rfl, Nat.le_of_ble_eq_true rfl⟩) rfl rfl (fun u43 H33 locs34 hw44 Z35 => ?_)
              clear Z32
              obtain ⟨f946, rfl⟩ : ∃ z, z = u43 := ⟨_, rfl⟩
              try dsimp only at hw44 Z35
              have Z36 : zz_S D A s [(x, .inr (6, [.ref tx0, .ref nb, .ref tb, .ref ib, .ref ah, .ref tp, .ref rd, .ref sh, .ref sl, .ref wt, .int 0, .int 0, .int 0, .int 0, .int 0])), (sh, .inl (ksh, 4, .inr (.inr (.inr (.inr shf))))), (h0, .inr (2, [.int (-1), .int 0, .ref hv0])), (h1, .inr (2, [.int (-1), .int 0, .ref hv1])), (h3, .inr (2, [.int (-1), .int 0, .ref hv3])), (hv0, .inl (khv0, 24, .inl hvf0)), (hv1, .inl (khv1, 24, .inl hvf1)), (hv3, .inl (khv3, 24, .inl hvf3)), (h2, .inr (2, [.int sort, .int (zz_held n 0 24), .ref hv2])), (hv2, .inl (khv2, 24, .inl f946))] [(ksh, .object RX2), (khv0, .int), (khv1, .int), (khv3, .int), (khv2, .int)] H33 locs34 := Z35
              clear Z35
              refine lv_iload_n hx hb dX6_sheet_65 rfl (lv_at hl 3 rfl) ?_
              exact zz_iret X hr hlk Z36 () (by simp [sp_sheet, w39, b40, (show ¬ (24 < n) from Int32.not_lt.mpr b41), (show ¬ (n < 0) from Int32.not_lt.mpr b42)]) [] [] (by decide +kernel) rfl rfl dX6_sheet_66
            · refine lv_ldcw (v := (-1000000014)) hx hb hown (hts _ (zz_m 3 rfl)) dX6_sheet_50 ?_
              exact zz_iret X hr hlk Z32 () (by simp [sp_sheet, w39, b40, (show ¬ (24 < n) from Int32.not_lt.mpr b41), (show (n < 0) from Int32.not_le.mp b42)]) [] [] (by decide +kernel) rfl rfl dX6_sheet_53
          · refine lv_ldc (v := (-1000000001)) hx hb hown (hts _ (zz_m 1 rfl)) dX6_sheet_43 ?_
            exact zz_iret X hr hlk Z32 () (by simp [sp_sheet, w39, b40, (show (24 < n) from Int32.not_le.mp b41)]) [] [] (by decide +kernel) rfl rfl dX6_sheet_45
        · refine lv_aload_n hx hb dX6_sheet_24 rfl (lv_at hl 0 rfl) ?_
          refine zz_get X Z32 0 rfl rfl (fun w h => List.mem_cons_of_mem _ (List.mem_append_left _ (List.mem_append_right _ h))) 7 rfl (zz_m 2 rfl) rfl dX6_sheet_25 ?_
          refine lv_iload_n hx hb dX6_sheet_28 rfl (lv_at hl 1 rfl) ?_
          refine zz_ald X Z32 1 0 rfl rfl (zz_in 2 4 rfl) (v := .ref h2) ashf_2 dX6_sheet_29 ?_
          refine lv_iconst (v := (-1)) hx hb dX6_sheet_30 (by decide) ?_
          refine lv_iconst (v := 0) hx hb dX6_sheet_31 (by decide) ?_
          refine zz_cv (WC := [(h2, .inr (2, [.int (-1), .int 0, .ref hv2])), (hv2, .inl (khv2, 24, .inl hvf2))]) (TC := [(khv2, .int)]) (WR := [(x, .inr (6, [.ref tx0, .ref nb, .ref tb, .ref ib, .ref ah, .ref tp, .ref rd, .ref sh, .ref sl, .ref wt, .int 0, .int 0, .int 0, .int 0, .int 0])), (sh, .inl (ksh, 4, .inr (.inr (.inr (.inr shf))))), (h0, .inr (2, [.int (-1), .int 0, .ref hv0])), (h1, .inr (2, [.int (-1), .int 0, .ref hv1])), (h3, .inr (2, [.int (-1), .int 0, .ref hv3])), (hv0, .inl (khv0, 24, .inl hvf0)), (hv1, .inl (khv1, 24, .inl hvf1)), (hv3, .inl (khv3, 24, .inl hvf3))]) (TR := [(ksh, .object RX2), (khv0, .int), (khv1, .int), (khv3, .int)]) (k := 0) (n := 0) Z32 [4, 8] [0, 1, 2, 3, 5, 6, 7, 9] [3] [0, 1, 2, 4] rfl rfl (by decide +kernel) (by decide +kernel) (by decide +kernel) rfl rfl (fun Zc => va_runV (As := [.int (-1), .int 0]) (rest := []) X (c_become l D h2 (-1) 0 hv2 khv2 hvf2 (-1) 0 H29.size) (cwV 2 hts gX6_sheet_X2_become rfl rfl rfl ⟨rfl, zh_X2_become⟩ ⟨Nat.le_of_ble_eq_true rfl, Nat.le_of_ble_eq_true rfl⟩) (zz_pV (ci := 2) Zc 0 rfl rfl) rfl rfl hl.1 rfl (lv_room (Nat.le_of_ble_eq_true rfl)) dX6_sheet_32 ⟨Nat.le_of_ble_eq_true rfl, Nat.le_of_ble_eq_true rfl⟩) rfl rfl (fun u47 H37 locs38 hw48 Z39 => ?_)
          clear Z32
          obtain ⟨f950, rfl⟩ : ∃ z, z = u47 := ⟨_, rfl⟩
          try dsimp only at hw48 Z39
          have Z40 : zz_S D A s [(x, .inr (6, [.ref tx0, .ref nb, .ref tb, .ref ib, .ref ah, .ref tp, .ref rd, .ref sh, .ref sl, .ref wt, .int 0, .int 0, .int 0, .int 0, .int 0])), (sh, .inl (ksh, 4, .inr (.inr (.inr (.inr shf))))), (h0, .inr (2, [.int (-1), .int 0, .ref hv0])), (h1, .inr (2, [.int (-1), .int 0, .ref hv1])), (h3, .inr (2, [.int (-1), .int 0, .ref hv3])), (hv0, .inl (khv0, 24, .inl hvf0)), (hv1, .inl (khv1, 24, .inl hvf1)), (hv3, .inl (khv3, 24, .inl hvf3)), (h2, .inr (2, [.int (-1), .int (zz_held 0 0 24), .ref hv2])), (hv2, .inl (khv2, 24, .inl f950))] [(ksh, .object RX2), (khv0, .int), (khv1, .int), (khv3, .int), (khv2, .int)] H37 locs38 := Z39
          clear Z39
          refine lv_iconst (v := 0) hx hb dX6_sheet_35 (by decide) ?_
          exact zz_iret X hr hlk Z40 () (by simp [sp_sheet, w39, b40]) [] [] (by decide +kernel) rfl rfl dX6_sheet_36
      · refine zz_v (v := 0) (zz_wiF w39) ?_
        refine lv_if_ne (tgt := 19) hx hb dX6_sheet_13 (by decide) (fun h => absurd (by decide) h) (fun _ => ?_)
        refine lv_ldc (v := (-1000000001)) hx hb hown (hts _ (zz_m 1 rfl)) dX6_sheet_16 ?_
        exact zz_iret X hr hlk Z32 () (by simp [sp_sheet, w39]) [] [] (by decide +kernel) rfl rfl dX6_sheet_18
    · have e5 : sheet = 3 := e5
      subst e5
      refine zz_v (v := 1) (by decide) ?_
      refine lv_if_eq (tgt := 16) hx hb dX6_sheet_4 (by decide) (fun h => absurd h (by decide)) (fun _ => ?_)
      refine lv_iload_n hx hb dX6_sheet_7 rfl (lv_at hl 2 rfl) ?_
      refine lv_iconst (v := (-1)) hx hb dX6_sheet_8 (by decide) ?_
      refine lv_iconst (v := 1) hx hb dX6_sheet_9 (by decide) ?_
      refine zz_ci (WC := []) (TC := []) (WR := [(x, .inr (6, [.ref tx0, .ref nb, .ref tb, .ref ib, .ref ah, .ref tp, .ref rd, .ref sh, .ref sl, .ref wt, .int 0, .int 0, .int 0, .int 0, .int 0])), (sh, .inl (ksh, 4, .inr (.inr (.inr (.inr shf))))), (h0, .inr (2, [.int (-1), .int 0, .ref hv0])), (h1, .inr (2, [.int (-1), .int 0, .ref hv1])), (h2, .inr (2, [.int (-1), .int 0, .ref hv2])), (h3, .inr (2, [.int (-1), .int 0, .ref hv3])), (hv0, .inl (khv0, 24, .inl hvf0)), (hv1, .inl (khv1, 24, .inl hvf1)), (hv2, .inl (khv2, 24, .inl hvf2)), (hv3, .inl (khv3, 24, .inl hvf3))]) (TR := [(ksh, .object RX2), (khv0, .int), (khv1, .int), (khv2, .int), (khv3, .int)]) (k := 0) (n := 0) Z4 [] [0, 1, 2, 3, 4, 5, 6, 7, 8, 9] [] [0, 1, 2, 3, 4] rfl rfl (by decide +kernel) (by decide +kernel) (by decide +kernel) rfl rfl (fun Zc => va_runS (As := [.int sort, .int (-1), .int 1]) (rest := []) X (c_within l D sort (-1) 1 H1.size) (va_cwS 3 hts gX6_sheet_X6_within rfl rfl rfl zh_X6_within ⟨Nat.le_of_ble_eq_true rfl, Nat.le_of_ble_eq_true rfl⟩) (zz_pS Zc) rfl rfl hl.1 rfl (lv_room (Nat.le_of_ble_eq_true rfl)) dX6_sheet_10 ⟨Nat.le_of_ble_eq_true rfl, Nat.le_of_ble_eq_true rfl⟩) rfl rfl (fun r53 u51 H41 locs42 hw52 Z43 => ?_)
      clear Z4
      subst r53
      have Z44 : zz_S D A s [(x, .inr (6, [.ref tx0, .ref nb, .ref tb, .ref ib, .ref ah, .ref tp, .ref rd, .ref sh, .ref sl, .ref wt, .int 0, .int 0, .int 0, .int 0, .int 0])), (sh, .inl (ksh, 4, .inr (.inr (.inr (.inr shf))))), (h0, .inr (2, [.int (-1), .int 0, .ref hv0])), (h1, .inr (2, [.int (-1), .int 0, .ref hv1])), (h2, .inr (2, [.int (-1), .int 0, .ref hv2])), (h3, .inr (2, [.int (-1), .int 0, .ref hv3])), (hv0, .inl (khv0, 24, .inl hvf0)), (hv1, .inl (khv1, 24, .inl hvf1)), (hv2, .inl (khv2, 24, .inl hvf2)), (hv3, .inl (khv3, 24, .inl hvf3))] [(ksh, .object RX2), (khv0, .int), (khv1, .int), (khv2, .int), (khv3, .int)] H41 locs42 := Z43
      clear Z43
      by_cases w54 : (-1) ≤ sort ∧ sort ≤ 1
      · refine zz_v (v := 1) (zz_wiT w54) ?_
        refine lv_if_ne (tgt := 19) hx hb dX6_sheet_13 (by decide) (fun _ => ?_) (fun h => absurd h (by decide))
        refine lv_iload_n hx hb dX6_sheet_19 rfl (lv_at hl 2 rfl) ?_
        refine lv_iconst (v := (-1)) hx hb dX6_sheet_20 (by decide) ?_
        refine lv_icmp_ne (tgt := 37) hx hb dX6_sheet_21 (by decide) (fun b55 => ?_) (fun b55 => ?_)
        · refine lv_iload_n hx hb dX6_sheet_37 rfl (lv_at hl 3 rfl) ?_
          refine lv_bipush (v := 24) hx hb dX6_sheet_38 (by decide) ?_
          refine lv_icmp_le (tgt := 46) hx hb dX6_sheet_40 (by decide) (fun b56 => ?_) (fun b56 => ?_)
          · refine lv_iload_n hx hb dX6_sheet_46 rfl (lv_at hl 3 rfl) ?_
            refine lv_if_ge (tgt := 54) hx hb dX6_sheet_47 (by decide) (fun b57 => ?_) (fun b57 => ?_)
            · refine lv_aload_n hx hb dX6_sheet_54 rfl (lv_at hl 0 rfl) ?_
              refine zz_get X Z44 0 rfl rfl (fun w h => List.mem_cons_of_mem _ (List.mem_append_left _ (List.mem_append_right _ h))) 7 rfl (zz_m 2 rfl) rfl dX6_sheet_55 ?_
              refine lv_iload_n hx hb dX6_sheet_58 rfl (lv_at hl 1 rfl) ?_
              refine zz_ald X Z44 1 0 rfl rfl (zz_in 3 4 rfl) (v := .ref h3) ashf_3 dX6_sheet_59 ?_
              refine lv_iload_n hx hb dX6_sheet_60 rfl (lv_at hl 2 rfl) ?_
              refine lv_iload_n hx hb dX6_sheet_61 rfl (lv_at hl 3 rfl) ?_
              refine zz_cv (WC := [(h3, .inr (2, [.int (-1), .int 0, .ref hv3])), (hv3, .inl (khv3, 24, .inl hvf3))]) (TC := [(khv3, .int)]) (WR := [(x, .inr (6, [.ref tx0, .ref nb, .ref tb, .ref ib, .ref ah, .ref tp, .ref rd, .ref sh, .ref sl, .ref wt, .int 0, .int 0, .int 0, .int 0, .int 0])), (sh, .inl (ksh, 4, .inr (.inr (.inr (.inr shf))))), (h0, .inr (2, [.int (-1), .int 0, .ref hv0])), (h1, .inr (2, [.int (-1), .int 0, .ref hv1])), (h2, .inr (2, [.int (-1), .int 0, .ref hv2])), (hv0, .inl (khv0, 24, .inl hvf0)), (hv1, .inl (khv1, 24, .inl hvf1)), (hv2, .inl (khv2, 24, .inl hvf2))]) (TR := [(ksh, .object RX2), (khv0, .int), (khv1, .int), (khv2, .int)]) (k := 0) (n := 0) Z44 [5, 9] [0, 1, 2, 3, 4, 6, 7, 8] [4] [0, 1, 2, 3] rfl rfl (by decide +kernel) (by decide +kernel) (by decide +kernel) rfl rfl (fun Zc => va_runV (As := [.int sort, .int n]) (rest := []) X (c_become l D h3 (-1) 0 hv3 khv3 hvf3 sort n H41.size) (cwV 2 hts gX6_sheet_X2_become rfl rfl rfl ⟨rfl, zh_X2_become⟩ ⟨Nat.le_of_ble_eq_true rfl, Nat.le_of_ble_eq_true rfl⟩) (zz_pV (ci := 2) Zc 0 rfl rfl) rfl rfl hl.1 rfl (lv_room (Nat.le_of_ble_eq_true rfl)) dX6_sheet_62 ⟨Nat.le_of_ble_eq_true rfl, Nat.le_of_ble_eq_true rfl⟩) rfl rfl (fun u58 H45 locs46 hw59 Z47 => ?_)
              clear Z44
              obtain ⟨f961, rfl⟩ : ∃ z, z = u58 := ⟨_, rfl⟩
              try dsimp only at hw59 Z47
              have Z48 : zz_S D A s [(x, .inr (6, [.ref tx0, .ref nb, .ref tb, .ref ib, .ref ah, .ref tp, .ref rd, .ref sh, .ref sl, .ref wt, .int 0, .int 0, .int 0, .int 0, .int 0])), (sh, .inl (ksh, 4, .inr (.inr (.inr (.inr shf))))), (h0, .inr (2, [.int (-1), .int 0, .ref hv0])), (h1, .inr (2, [.int (-1), .int 0, .ref hv1])), (h2, .inr (2, [.int (-1), .int 0, .ref hv2])), (hv0, .inl (khv0, 24, .inl hvf0)), (hv1, .inl (khv1, 24, .inl hvf1)), (hv2, .inl (khv2, 24, .inl hvf2)), (h3, .inr (2, [.int sort, .int (zz_held n 0 24), .ref hv3])), (hv3, .inl (khv3, 24, .inl f961))] [(ksh, .object RX2), (khv0, .int), (khv1, .int), (khv2, .int), (khv3, .int)] H45 locs46 := Z47
              clear Z47
              refine lv_iload_n hx hb dX6_sheet_65 rfl (lv_at hl 3 rfl) ?_
              exact zz_iret X hr hlk Z48 () (by simp [sp_sheet, w54, b55, (show ¬ (24 < n) from Int32.not_lt.mpr b56), (show ¬ (n < 0) from Int32.not_lt.mpr b57)]) [] [] (by decide +kernel) rfl rfl dX6_sheet_66
            · refine lv_ldcw (v := (-1000000014)) hx hb hown (hts _ (zz_m 3 rfl)) dX6_sheet_50 ?_
              exact zz_iret X hr hlk Z44 () (by simp [sp_sheet, w54, b55, (show ¬ (24 < n) from Int32.not_lt.mpr b56), (show (n < 0) from Int32.not_le.mp b57)]) [] [] (by decide +kernel) rfl rfl dX6_sheet_53
          · refine lv_ldc (v := (-1000000001)) hx hb hown (hts _ (zz_m 1 rfl)) dX6_sheet_43 ?_
            exact zz_iret X hr hlk Z44 () (by simp [sp_sheet, w54, b55, (show (24 < n) from Int32.not_le.mp b56)]) [] [] (by decide +kernel) rfl rfl dX6_sheet_45
        · refine lv_aload_n hx hb dX6_sheet_24 rfl (lv_at hl 0 rfl) ?_
          refine zz_get X Z44 0 rfl rfl (fun w h => List.mem_cons_of_mem _ (List.mem_append_left _ (List.mem_append_right _ h))) 7 rfl (zz_m 2 rfl) rfl dX6_sheet_25 ?_
          refine lv_iload_n hx hb dX6_sheet_28 rfl (lv_at hl 1 rfl) ?_
          refine zz_ald X Z44 1 0 rfl rfl (zz_in 3 4 rfl) (v := .ref h3) ashf_3 dX6_sheet_29 ?_
          refine lv_iconst (v := (-1)) hx hb dX6_sheet_30 (by decide) ?_
          refine lv_iconst (v := 0) hx hb dX6_sheet_31 (by decide) ?_
          refine zz_cv (WC := [(h3, .inr (2, [.int (-1), .int 0, .ref hv3])), (hv3, .inl (khv3, 24, .inl hvf3))]) (TC := [(khv3, .int)]) (WR := [(x, .inr (6, [.ref tx0, .ref nb, .ref tb, .ref ib, .ref ah, .ref tp, .ref rd, .ref sh, .ref sl, .ref wt, .int 0, .int 0, .int 0, .int 0, .int 0])), (sh, .inl (ksh, 4, .inr (.inr (.inr (.inr shf))))), (h0, .inr (2, [.int (-1), .int 0, .ref hv0])), (h1, .inr (2, [.int (-1), .int 0, .ref hv1])), (h2, .inr (2, [.int (-1), .int 0, .ref hv2])), (hv0, .inl (khv0, 24, .inl hvf0)), (hv1, .inl (khv1, 24, .inl hvf1)), (hv2, .inl (khv2, 24, .inl hvf2))]) (TR := [(ksh, .object RX2), (khv0, .int), (khv1, .int), (khv2, .int)]) (k := 0) (n := 0) Z44 [5, 9] [0, 1, 2, 3, 4, 6, 7, 8] [4] [0, 1, 2, 3] rfl rfl (by decide +kernel) (by decide +kernel) (by decide +kernel) rfl rfl (fun Zc => va_runV (As := [.int (-1), .int 0]) (rest := []) X (c_become l D h3 (-1) 0 hv3 khv3 hvf3 (-1) 0 H41.size) (cwV 2 hts gX6_sheet_X2_become rfl rfl rfl ⟨rfl, zh_X2_become⟩ ⟨Nat.le_of_ble_eq_true rfl, Nat.le_of_ble_eq_true rfl⟩) (zz_pV (ci := 2) Zc 0 rfl rfl) rfl rfl hl.1 rfl (lv_room (Nat.le_of_ble_eq_true rfl)) dX6_sheet_32 ⟨Nat.le_of_ble_eq_true rfl, Nat.le_of_ble_eq_true rfl⟩) rfl rfl (fun u62 H49 locs50 hw63 Z51 => ?_)
          clear Z44
          obtain ⟨f965, rfl⟩ : ∃ z, z = u62 := ⟨_, rfl⟩
          try dsimp only at hw63 Z51
          have Z52 : zz_S D A s [(x, .inr (6, [.ref tx0, .ref nb, .ref tb, .ref ib, .ref ah, .ref tp, .ref rd, .ref sh, .ref sl, .ref wt, .int 0, .int 0, .int 0, .int 0, .int 0])), (sh, .inl (ksh, 4, .inr (.inr (.inr (.inr shf))))), (h0, .inr (2, [.int (-1), .int 0, .ref hv0])), (h1, .inr (2, [.int (-1), .int 0, .ref hv1])), (h2, .inr (2, [.int (-1), .int 0, .ref hv2])), (hv0, .inl (khv0, 24, .inl hvf0)), (hv1, .inl (khv1, 24, .inl hvf1)), (hv2, .inl (khv2, 24, .inl hvf2)), (h3, .inr (2, [.int (-1), .int (zz_held 0 0 24), .ref hv3])), (hv3, .inl (khv3, 24, .inl f965))] [(ksh, .object RX2), (khv0, .int), (khv1, .int), (khv2, .int), (khv3, .int)] H49 locs50 := Z51
          clear Z51
          refine lv_iconst (v := 0) hx hb dX6_sheet_35 (by decide) ?_
          exact zz_iret X hr hlk Z52 () (by simp [sp_sheet, w54, b55]) [] [] (by decide +kernel) rfl rfl dX6_sheet_36
      · refine zz_v (v := 0) (zz_wiF w54) ?_
        refine lv_if_ne (tgt := 19) hx hb dX6_sheet_13 (by decide) (fun h => absurd (by decide) h) (fun _ => ?_)
        refine lv_ldc (v := (-1000000001)) hx hb hown (hts _ (zz_m 1 rfl)) dX6_sheet_16 ?_
        exact zz_iret X hr hlk Z44 () (by simp [sp_sheet, w54]) [] [] (by decide +kernel) rfl rfl dX6_sheet_18
  · refine zz_v (v := 0) (zz_wiF w4) ?_
    refine lv_if_eq (tgt := 16) hx hb dX6_sheet_4 (by decide) (fun _ => ?_) (fun h => absurd (by decide) h)
    refine lv_ldc (v := (-1000000001)) hx hb hown (hts _ (zz_m 1 rfl)) dX6_sheet_16 ?_
    exact zz_iret X hr hlk Z4 () (by simp [sp_sheet, w4]) [] [] (by decide +kernel) rfl rfl dX6_sheet_18
