set_option maxHeartbeats 4000000 in
set_option maxRecDepth 100000 in
theorem c_Stall_init (l : Launch) (D : va_G) (V : zz_V) (b : Nat) (k0 : Int32) (p0 : Int32) (g0 : Int32) (y0 : Int32)  : zz_MV l yX4_init wsX4_init 1 20 0 0 D V [.ref b] [(b, .inr (4, [.int k0, .int p0, .int g0, .int y0]))] [] (fun (u : Unit) => True) (fun (u : Unit) => [(b, .inr (4, [.int k0, .int p0, .int g0, .int y0]))]) (fun (u : Unit) => []) := by
  intro sz
  refine Met.ofW (cc := cX4_init) (maxL := 1) (ret := none) (by decide) rfl ?_
  intro p e s m args below meth c s₁ B hml hv
  obtain ⟨rfl, hC⟩ := hv
  have hx := B.exec
  have hb := B.bytes
  have hr := B.returns
  have hts := atoms_spec (ws := wsX4_init) B.pre
  have hown : s.vm.findClass RX4 = some m.cls := findClass_of_methodNamed B.named
  have hlk := B.notSynchronized
  have hini : meth.name = "<init>" := (name_of_methodNamed B.named B.method).1
  have X : CallFix p m c cX4_init 1 s _ wsX4_init RX4 := ⟨hx, hb, hml, hown, hts⟩
  have Z := zz_enter hC
  generalize va_A [(b, .inr (4, [.int k0, .int p0, .int g0, .int y0]))] sz = A at Z ⊢
  have hl := lv_entry ([.ref b]) (n := 1) (Nat.le_of_ble_eq_true rfl)
  rw [lg_entry_eq]
  generalize (lg_sl ([.ref b]) ++ List.replicate (1 - (lg_sl ([.ref b])).length) Slot.unset).toArray = ls at hl ⊢
  have hl : lv_has ls 1 [(0, .ref b)] := hl
  refine lv_aload_n hx hb dX4_init_0 rfl (lv_at hl 0 rfl) ?_
  refine W.objInit hx hb hown (hts _ (zz_m 1 rfl)) (hts _ (zz_m 2 rfl)) (hts _ (zz_m 3 rfl)) rfl (by rw [hml]; exact hl.1) rfl dX4_init_1 (Nat.le_of_ble_eq_true rfl) (Nat.le_of_ble_eq_true rfl) ?_
  refine W.eq (g2 := F0 m 4 ls []) rfl ?_
  exact zz_vret X hr hlk Z () trivial [0] [] (by decide +kernel) rfl rfl dX4_init_4

set_option maxHeartbeats 4000000 in
set_option maxRecDepth 100000 in
theorem c_Text_init (l : Launch) (D : va_G) (V : zz_V) (b : Nat) (ky : Int32) (lv0 : Int32) (ln : Int32)  : zz_MV l yX5_init wsX5_init 1 20 2 192 D V [.ref b] [(b, .inr (5, [.int ky, .int lv0, .int ln, .null, .null]))] [] (fun (u : Nat × ClassId × Nat × ClassId) => match u with | (s9, ks9, t9, kt9) => True) (fun (u : Nat × ClassId × Nat × ClassId) => match u with | (s9, ks9, t9, kt9) => [(b, .inr (5, [.int ky, .int lv0, .int ln, .ref s9, .ref t9])), (s9, .inl (ks9, 96, .inl (fun _ => 0))), (t9, .inl (kt9, 96, .inl (fun _ => 0)))]) (fun (u : Nat × ClassId × Nat × ClassId) => match u with | (s9, ks9, t9, kt9) => [(ks9, .int), (kt9, .int)]) := by
  intro sz
  refine Met.ofW (cc := cX5_init) (maxL := 1) (ret := none) (by decide) rfl ?_
  intro p e s m args below meth c s₁ B hml hv
  obtain ⟨rfl, hC⟩ := hv
  have hx := B.exec
  have hb := B.bytes
  have hr := B.returns
  have hts := atoms_spec (ws := wsX5_init) B.pre
  have hown : s.vm.findClass RX5 = some m.cls := findClass_of_methodNamed B.named
  have hlk := B.notSynchronized
  have hini : meth.name = "<init>" := (name_of_methodNamed B.named B.method).1
  have X : CallFix p m c cX5_init 1 s _ wsX5_init RX5 := ⟨hx, hb, hml, hown, hts⟩
  have Z := zz_enter hC
  generalize va_A [(b, .inr (5, [.int ky, .int lv0, .int ln, .null, .null]))] sz = A at Z ⊢
  have hl := lv_entry ([.ref b]) (n := 1) (Nat.le_of_ble_eq_true rfl)
  rw [lg_entry_eq]
  generalize (lg_sl ([.ref b]) ++ List.replicate (1 - (lg_sl ([.ref b])).length) Slot.unset).toArray = ls at hl ⊢
  have hl : lv_has ls 1 [(0, .ref b)] := hl
  refine lv_aload_n hx hb dX5_init_0 rfl (lv_at hl 0 rfl) ?_
  refine W.objInit hx hb hown (hts _ (zz_m 1 rfl)) (hts _ (zz_m 2 rfl)) (hts _ (zz_m 3 rfl)) rfl (by rw [hml]; exact hl.1) rfl dX5_init_1 (Nat.le_of_ble_eq_true rfl) (Nat.le_of_ble_eq_true rfl) ?_
  refine W.eq (g2 := F0 m 4 ls []) rfl ?_
  refine lv_aload_n hx hb dX5_init_4 rfl (lv_at hl 0 rfl) ?_
  refine lv_bipush (v := 96) hx hb dX5_init_5 (by decide) ?_
  refine zz_newi (k := 1) (n := 96) (N' := 96) X Z (zz_m 4 rfl) (by decide) (by decide) rfl rfl rfl rfl rfl dX5_init_7 (fun q1 k2 H1 Z2 => ?_)
  clear Z
  have Z3 : zz_S D V A s [(b, .inr (5, [.int ky, .int lv0, .int ln, .null, .null])), (q1, .inl (k2, 96, .inl (fun _ => 0)))] [(k2, .int)] H1 _ := Z2
  clear Z2
  refine zz_putF (WS' := [(b, .inr (5, [.int ky, .int lv0, .int ln, .ref q1, .null])), (q1, .inl (k2, 96, .inl (fun _ => 0)))]) X Z3 0 rfl rfl (fun w h => List.mem_cons_of_mem _ (List.mem_append_right _ h)) tyX5 tyX5_ok nmX5 3 rfl (zz_m 5 rfl) rfl hini rfl rfl rfl rfl dX5_init_9 rfl (fun H4 locs5 Z6 => ?_)
  clear Z3
  refine lv_aload_n hx hb dX5_init_12 rfl (lv_at hl 0 rfl) ?_
  refine lv_bipush (v := 96) hx hb dX5_init_13 (by decide) ?_
  refine zz_newi (k := 2) (n := 192) (N' := 96) X Z6 (zz_m 4 rfl) (by decide) (by decide) rfl rfl rfl rfl rfl dX5_init_15 (fun q3 k4 H7 Z8 => ?_)
  clear Z6
  have Z9 : zz_S D V A s [(b, .inr (5, [.int ky, .int lv0, .int ln, .ref q1, .null])), (q1, .inl (k2, 96, .inl (fun _ => 0))), (q3, .inl (k4, 96, .inl (fun _ => 0)))] [(k2, .int), (k4, .int)] H7 _ := Z8
  clear Z8
  refine zz_putF (WS' := [(b, .inr (5, [.int ky, .int lv0, .int ln, .ref q1, .ref q3])), (q1, .inl (k2, 96, .inl (fun _ => 0))), (q3, .inl (k4, 96, .inl (fun _ => 0)))]) X Z9 0 rfl rfl (fun w h => List.mem_cons_of_mem _ (List.mem_append_right _ h)) tyX5 tyX5_ok nmX5 4 rfl (zz_m 6 rfl) rfl hini rfl rfl rfl rfl dX5_init_17 rfl (fun H10 locs11 Z12 => ?_)
  clear Z9
  exact zz_vret X hr hlk Z12 (q1, k2, q3, k4) trivial [0, 1, 2] [0, 1] (by decide +kernel) rfl rfl dX5_init_20

set_option maxHeartbeats 4000000 in
set_option maxRecDepth 100000 in
theorem c_Sheet_init (l : Launch) (D : va_G) (V : zz_V) (b : Nat) (so : Int32) (le : Int32)  : zz_MV l yX2_init wsX2_init 1 20 1 24 D V [.ref b] [(b, .inr (2, [.int so, .int le, .null]))] [] (fun (u : Nat × ClassId) => match u with | (v9, kv9) => True) (fun (u : Nat × ClassId) => match u with | (v9, kv9) => [(b, .inr (2, [.int (-1), .int le, .ref v9])), (v9, .inl (kv9, 24, .inl (fun _ => 0)))]) (fun (u : Nat × ClassId) => match u with | (v9, kv9) => [(kv9, .int)]) := by
  intro sz
  refine Met.ofW (cc := cX2_init) (maxL := 1) (ret := none) (by decide) rfl ?_
  intro p e s m args below meth c s₁ B hml hv
  obtain ⟨rfl, hC⟩ := hv
  have hx := B.exec
  have hb := B.bytes
  have hr := B.returns
  have hts := atoms_spec (ws := wsX2_init) B.pre
  have hown : s.vm.findClass RX2 = some m.cls := findClass_of_methodNamed B.named
  have hlk := B.notSynchronized
  have hini : meth.name = "<init>" := (name_of_methodNamed B.named B.method).1
  have X : CallFix p m c cX2_init 1 s _ wsX2_init RX2 := ⟨hx, hb, hml, hown, hts⟩
  have Z := zz_enter hC
  generalize va_A [(b, .inr (2, [.int so, .int le, .null]))] sz = A at Z ⊢
  have hl := lv_entry ([.ref b]) (n := 1) (Nat.le_of_ble_eq_true rfl)
  rw [lg_entry_eq]
  generalize (lg_sl ([.ref b]) ++ List.replicate (1 - (lg_sl ([.ref b])).length) Slot.unset).toArray = ls at hl ⊢
  have hl : lv_has ls 1 [(0, .ref b)] := hl
  refine lv_aload_n hx hb dX2_init_0 rfl (lv_at hl 0 rfl) ?_
  refine W.objInit hx hb hown (hts _ (zz_m 1 rfl)) (hts _ (zz_m 2 rfl)) (hts _ (zz_m 3 rfl)) rfl (by rw [hml]; exact hl.1) rfl dX2_init_1 (Nat.le_of_ble_eq_true rfl) (Nat.le_of_ble_eq_true rfl) ?_
  refine W.eq (g2 := F0 m 4 ls []) rfl ?_
  refine lv_aload_n hx hb dX2_init_4 rfl (lv_at hl 0 rfl) ?_
  refine lv_iconst (v := (-1)) hx hb dX2_init_5 (by decide) ?_
  refine zz_put (WS' := [(b, .inr (2, [.int (-1), .int le, .null]))]) X Z 0 rfl rfl (fun w h => List.mem_cons_of_mem _ (List.mem_append_right _ h)) tyX2 tyX2_ok nmX2 0 rfl (zz_m 4 rfl) rfl rfl rfl rfl dX2_init_6 rfl (fun H1 locs2 Z3 => ?_)
  clear Z
  refine lv_aload_n hx hb dX2_init_9 rfl (lv_at hl 0 rfl) ?_
  refine lv_bipush (v := 24) hx hb dX2_init_10 (by decide) ?_
  refine zz_newi (k := 1) (n := 24) (N' := 24) X Z3 (zz_m 5 rfl) (by decide) (by decide) rfl rfl rfl rfl rfl dX2_init_12 (fun q1 k2 H4 Z5 => ?_)
  clear Z3
  have Z6 : zz_S D V A s [(b, .inr (2, [.int (-1), .int le, .null])), (q1, .inl (k2, 24, .inl (fun _ => 0)))] [(k2, .int)] H4 _ := Z5
  clear Z5
  refine zz_putF (WS' := [(b, .inr (2, [.int (-1), .int le, .ref q1])), (q1, .inl (k2, 24, .inl (fun _ => 0)))]) X Z6 0 rfl rfl (fun w h => List.mem_cons_of_mem _ (List.mem_append_right _ h)) tyX2 tyX2_ok nmX2 2 rfl (zz_m 6 rfl) rfl hini rfl rfl rfl rfl dX2_init_14 rfl (fun H7 locs8 Z9 => ?_)
  clear Z6
  exact zz_vret X hr hlk Z9 (q1, k2) trivial [0, 1] [0] (by decide +kernel) rfl rfl dX2_init_17

set_option maxHeartbeats 4000000 in
set_option maxRecDepth 100000 in
theorem c_Slot_init (l : Launch) (D : va_G) (V : zz_V) (b : Nat) (th : Int32) (nu : Int32)  : zz_MV l yX3_init wsX3_init 2 40 3 31 D V [.ref b] [(b, .inr (3, [.int th, .int nu, .null, .null]))] [] (fun (u : Nat × Nat × Nat × ClassId) => match u with | (t9, h9, v9, kv9) => True) (fun (u : Nat × Nat × Nat × ClassId) => match u with | (t9, h9, v9, kv9) => [(b, .inr (3, [.int 0, .int nu, .ref t9, .ref h9])), (t9, .inr (4, [.int 0, .int 0, .int 0, .int 0])), (h9, .inr (2, [.int (-1), .int 0, .ref v9])), (v9, .inl (kv9, 24, .inl (fun _ => 0)))]) (fun (u : Nat × Nat × Nat × ClassId) => match u with | (t9, h9, v9, kv9) => [(kv9, .int)]) := by
  intro sz
  refine Met.ofW (cc := cX3_init) (maxL := 1) (ret := none) (by decide) rfl ?_
  intro p e s m args below meth c s₁ B hml hv
  obtain ⟨rfl, hC⟩ := hv
  have hx := B.exec
  have hb := B.bytes
  have hr := B.returns
  have hts := atoms_spec (ws := wsX3_init) B.pre
  have hown : s.vm.findClass RX3 = some m.cls := findClass_of_methodNamed B.named
  have hlk := B.notSynchronized
  have hini : meth.name = "<init>" := (name_of_methodNamed B.named B.method).1
  have X : CallFix p m c cX3_init 1 s _ wsX3_init RX3 := ⟨hx, hb, hml, hown, hts⟩
  have Z := zz_enter hC
  generalize va_A [(b, .inr (3, [.int th, .int nu, .null, .null]))] sz = A at Z ⊢
  have hl := lv_entry ([.ref b]) (n := 1) (Nat.le_of_ble_eq_true rfl)
  rw [lg_entry_eq]
  generalize (lg_sl ([.ref b]) ++ List.replicate (1 - (lg_sl ([.ref b])).length) Slot.unset).toArray = ls at hl ⊢
  have hl : lv_has ls 1 [(0, .ref b)] := hl
  refine lv_aload_n hx hb dX3_init_0 rfl (lv_at hl 0 rfl) ?_
  refine W.objInit hx hb hown (hts _ (zz_m 1 rfl)) (hts _ (zz_m 2 rfl)) (hts _ (zz_m 3 rfl)) rfl (by rw [hml]; exact hl.1) rfl dX3_init_1 (Nat.le_of_ble_eq_true rfl) (Nat.le_of_ble_eq_true rfl) ?_
  refine W.eq (g2 := F0 m 4 ls []) rfl ?_
  refine lv_aload_n hx hb dX3_init_4 rfl (lv_at hl 0 rfl) ?_
  refine lv_iconst (v := 0) hx hb dX3_init_5 (by decide) ?_
  refine zz_put (WS' := [(b, .inr (3, [.int 0, .int nu, .null, .null]))]) X Z 0 rfl rfl (fun w h => List.mem_cons_of_mem _ (List.mem_append_left _ (List.mem_append_left _ (List.mem_append_right _ h)))) tyX3 tyX3_ok nmX3 0 rfl (zz_m 4 rfl) rfl rfl rfl rfl dX3_init_6 rfl (fun H1 locs2 Z3 => ?_)
  clear Z
  refine lv_aload_n hx hb dX3_init_9 rfl (lv_at hl 0 rfl) ?_
  refine zz_new (ci := 4) (fs := [.int 0, .int 0, .int 0, .int 0]) (k := 1) (n := 4) X Z3 rfl (fun w h => List.mem_cons_of_mem _ (List.mem_append_left _ (List.mem_append_right _ h))) tyX4 tyX4_ok (zz_m 5 rfl) (zz_m 6 rfl) (zz_m 7 rfl) zf_X4 rfl rfl rfl rfl dX3_init_10 (fun q1 H4 Z5 => ?_)
  clear Z3
  have Z6 : zz_S D V A s [(b, .inr (3, [.int 0, .int nu, .null, .null])), (q1, .inr (4, [.int 0, .int 0, .int 0, .int 0]))] [] H4 _ := Z5
  clear Z5
  refine lv_dup hx hb dX3_init_13 rfl ?_
  refine zz_cv (WC := [(q1, .inr (4, [.int 0, .int 0, .int 0, .int 0]))]) (TC := []) (WR := [(b, .inr (3, [.int 0, .int nu, .null, .null]))]) (TR := []) (k := 1) (n := 4) Z6 [1] [0] [] [] rfl rfl (by decide +kernel) (by decide +kernel) (by decide +kernel) rfl rfl (fun Zc => va_runIN (As := []) (rest := [.ref q1, .ref b]) X (c_Stall_init l D V q1 0 0 0 0 H4.size) ⟨va_cnB 0 hts gX3_init_X4_init_n17 rfl rfl rfl (zz_nw (q := (RX3, 17, yX4_init, RX6)) Z6.2.2.2.2.2 11 rfl) (hts _ (zz_m 7 rfl)) zh_X4_init ⟨Nat.le_of_ble_eq_true rfl, Nat.le_of_ble_eq_true rfl⟩, rfl, hts _ (zz_m 13 rfl)⟩ (zz_pS Zc) rfl rfl hl.1 rfl (lv_room (Nat.le_of_ble_eq_true rfl)) dX3_init_14 ⟨Nat.le_of_ble_eq_true rfl, Nat.le_of_ble_eq_true rfl⟩) rfl rfl (fun u2 H7 locs8 hw3 Z9 => ?_)
  clear Z6
  have Z10 : zz_S D V A s [(b, .inr (3, [.int 0, .int nu, .null, .null])), (q1, .inr (4, [.int 0, .int 0, .int 0, .int 0]))] [] H7 locs8 := Z9
  clear Z9
  refine zz_putF (WS' := [(b, .inr (3, [.int 0, .int nu, .ref q1, .null])), (q1, .inr (4, [.int 0, .int 0, .int 0, .int 0]))]) X Z10 0 rfl rfl (fun w h => List.mem_cons_of_mem _ (List.mem_append_left _ (List.mem_append_left _ (List.mem_append_right _ h)))) tyX3 tyX3_ok nmX3 2 rfl (zz_m 8 rfl) rfl hini rfl rfl rfl rfl dX3_init_17 rfl (fun H11 locs12 Z13 => ?_)
  clear Z10
  refine lv_aload_n hx hb dX3_init_20 rfl (lv_at hl 0 rfl) ?_
  refine zz_new (ci := 2) (fs := [.int 0, .int 0, .null]) (k := 2) (n := 7) X Z13 rfl (fun w h => List.mem_cons_of_mem _ (List.mem_append_right _ h)) tyX2 tyX2_ok (zz_m 9 rfl) (zz_m 10 rfl) (zz_m 11 rfl) zf_X2 rfl rfl rfl rfl dX3_init_21 (fun q5 H14 Z15 => ?_)
  clear Z13
  have Z16 : zz_S D V A s [(b, .inr (3, [.int 0, .int nu, .ref q1, .null])), (q1, .inr (4, [.int 0, .int 0, .int 0, .int 0])), (q5, .inr (2, [.int 0, .int 0, .null]))] [] H14 _ := Z15
  clear Z15
  refine lv_dup hx hb dX3_init_24 rfl ?_
  refine zz_cv (WC := [(q5, .inr (2, [.int 0, .int 0, .null]))]) (TC := []) (WR := [(b, .inr (3, [.int 0, .int nu, .ref q1, .null])), (q1, .inr (4, [.int 0, .int 0, .int 0, .int 0]))]) (TR := []) (k := 3) (n := 31) Z16 [2] [0, 1] [] [] rfl rfl (by decide +kernel) (by decide +kernel) (by decide +kernel) rfl rfl (fun Zc => va_runIN (As := []) (rest := [.ref q5, .ref b]) X (c_Sheet_init l D V q5 0 0 H14.size) ⟨va_cnB 0 hts gX3_init_X2_init_n24 rfl rfl rfl (zz_nw (q := (RX3, 24, yX2_init, RX6)) Z16.2.2.2.2.2 12 rfl) (hts _ (zz_m 11 rfl)) zh_X2_init ⟨Nat.le_of_ble_eq_true rfl, Nat.le_of_ble_eq_true rfl⟩, rfl, hts _ (zz_m 16 rfl)⟩ (zz_pS Zc) rfl rfl hl.1 rfl (lv_room (Nat.le_of_ble_eq_true rfl)) dX3_init_25 ⟨Nat.le_of_ble_eq_true rfl, Nat.le_of_ble_eq_true rfl⟩) rfl rfl (fun u6 H17 locs18 hw7 Z19 => ?_)
  clear Z16
  obtain ⟨v99, kv910⟩ := u6
  try dsimp only at hw7 Z19
  have Z20 : zz_S D V A s [(b, .inr (3, [.int 0, .int nu, .ref q1, .null])), (q1, .inr (4, [.int 0, .int 0, .int 0, .int 0])), (q5, .inr (2, [.int (-1), .int 0, .ref v99])), (v99, .inl (kv910, 24, .inl (fun _ => 0)))] [(kv910, .int)] H17 locs18 := Z19
  clear Z19
  refine zz_putF (WS' := [(b, .inr (3, [.int 0, .int nu, .ref q1, .ref q5])), (q1, .inr (4, [.int 0, .int 0, .int 0, .int 0])), (q5, .inr (2, [.int (-1), .int 0, .ref v99])), (v99, .inl (kv910, 24, .inl (fun _ => 0)))]) X Z20 0 rfl rfl (fun w h => List.mem_cons_of_mem _ (List.mem_append_left _ (List.mem_append_left _ (List.mem_append_right _ h)))) tyX3 tyX3_ok nmX3 3 rfl (zz_m 12 rfl) rfl hini rfl rfl rfl rfl dX3_init_28 rfl (fun H21 locs22 Z23 => ?_)
  clear Z20
  exact zz_vret X hr hlk Z23 (q1, q5, v99, kv910) trivial [0, 1, 2, 3] [0] (by decide +kernel) rfl rfl dX3_init_31

set_option maxHeartbeats 4000000 in
set_option maxRecDepth 100000 in
theorem c_Reader_init (l : Launch) (D : va_G) (V : zz_V) (b : Nat) (ta : Nat) (r2 : Int32) (r3 : Int32) (r4 : Int32) (r5 : Int32) (r6 : Int32) (r7 : Int32)  : zz_MV l yX1_init wsX1_init 2 40 3 197 D V [.ref b, .ref ta] [(b, .inr (1, [.null, .null, .int r2, .int r3, .int r4, .int r5, .int r6, .int r7]))] [] (fun (u : Nat × Nat × ClassId × Nat × ClassId) => match u with | (d9, s9, ks9, t9, kt9) => True) (fun (u : Nat × Nat × ClassId × Nat × ClassId) => match u with | (d9, s9, ks9, t9, kt9) => [(b, .inr (1, [.ref ta, .ref d9, .int r2, .int r3, .int r4, .int r5, .int r6, .int r7])), (d9, .inr (5, [.int 0, .int 0, .int 0, .ref s9, .ref t9])), (s9, .inl (ks9, 96, .inl (fun _ => 0))), (t9, .inl (kt9, 96, .inl (fun _ => 0)))]) (fun (u : Nat × Nat × ClassId × Nat × ClassId) => match u with | (d9, s9, ks9, t9, kt9) => [(ks9, .int), (kt9, .int)]) := by
  intro sz
  refine Met.ofW (cc := cX1_init) (maxL := 2) (ret := none) (by decide) rfl ?_
  intro p e s m args below meth c s₁ B hml hv
  obtain ⟨rfl, hC⟩ := hv
  have hx := B.exec
  have hb := B.bytes
  have hr := B.returns
  have hts := atoms_spec (ws := wsX1_init) B.pre
  have hown : s.vm.findClass RX1 = some m.cls := findClass_of_methodNamed B.named
  have hlk := B.notSynchronized
  have hini : meth.name = "<init>" := (name_of_methodNamed B.named B.method).1
  have X : CallFix p m c cX1_init 2 s _ wsX1_init RX1 := ⟨hx, hb, hml, hown, hts⟩
  have Z := zz_enter hC
  generalize va_A [(b, .inr (1, [.null, .null, .int r2, .int r3, .int r4, .int r5, .int r6, .int r7]))] sz = A at Z ⊢
  have hl := lv_entry ([.ref b, .ref ta]) (n := 2) (Nat.le_of_ble_eq_true rfl)
  rw [lg_entry_eq]
  generalize (lg_sl ([.ref b, .ref ta]) ++ List.replicate (2 - (lg_sl ([.ref b, .ref ta])).length) Slot.unset).toArray = ls at hl ⊢
  have hl : lv_has ls 2 [(0, .ref b), (1, .ref ta)] := hl
  refine lv_aload_n hx hb dX1_init_0 rfl (lv_at hl 0 rfl) ?_
  refine W.objInit hx hb hown (hts _ (zz_m 1 rfl)) (hts _ (zz_m 2 rfl)) (hts _ (zz_m 3 rfl)) rfl (by rw [hml]; exact hl.1) rfl dX1_init_1 (Nat.le_of_ble_eq_true rfl) (Nat.le_of_ble_eq_true rfl) ?_
  refine W.eq (g2 := F0 m 4 ls []) rfl ?_
  refine lv_aload_n hx hb dX1_init_4 rfl (lv_at hl 0 rfl) ?_
  refine zz_new (ci := 5) (fs := [.int 0, .int 0, .int 0, .null, .null]) (k := 1) (n := 5) X Z rfl (fun w h => List.mem_cons_of_mem _ (List.mem_append_left _ (List.mem_append_right _ h))) tyX5 tyX5_ok (zz_m 4 rfl) (zz_m 5 rfl) (zz_m 6 rfl) zf_X5 rfl rfl rfl rfl dX1_init_5 (fun q1 H1 Z2 => ?_)
  clear Z
  have Z3 : zz_S D V A s [(b, .inr (1, [.null, .null, .int r2, .int r3, .int r4, .int r5, .int r6, .int r7])), (q1, .inr (5, [.int 0, .int 0, .int 0, .null, .null]))] [] H1 _ := Z2
  clear Z2
  refine lv_dup hx hb dX1_init_8 rfl ?_
  refine zz_cv (WC := [(q1, .inr (5, [.int 0, .int 0, .int 0, .null, .null]))]) (TC := []) (WR := [(b, .inr (1, [.null, .null, .int r2, .int r3, .int r4, .int r5, .int r6, .int r7]))]) (TR := []) (k := 3) (n := 197) Z3 [1] [0] [] [] rfl rfl (by decide +kernel) (by decide +kernel) (by decide +kernel) rfl rfl (fun Zc => va_runIN (As := []) (rest := [.ref q1, .ref b]) X (c_Text_init l D V q1 0 0 0 H1.size) ⟨va_cnB 0 hts gX1_init_X5_init_n11 rfl rfl rfl (zz_nw (q := (RX1, 11, yX5_init, RX6)) Z3.2.2.2.2.2 6 rfl) (hts _ (zz_m 6 rfl)) zh_X5_init ⟨Nat.le_of_ble_eq_true rfl, Nat.le_of_ble_eq_true rfl⟩, rfl, hts _ (zz_m 9 rfl)⟩ (zz_pS Zc) rfl rfl hl.1 rfl (lv_room (Nat.le_of_ble_eq_true rfl)) dX1_init_9 ⟨Nat.le_of_ble_eq_true rfl, Nat.le_of_ble_eq_true rfl⟩) rfl rfl (fun u2 H4 locs5 hw3 Z6 => ?_)
  clear Z3
  obtain ⟨s95, ks96, t97, kt98⟩ := u2
  try dsimp only at hw3 Z6
  have Z7 : zz_S D V A s [(b, .inr (1, [.null, .null, .int r2, .int r3, .int r4, .int r5, .int r6, .int r7])), (q1, .inr (5, [.int 0, .int 0, .int 0, .ref s95, .ref t97])), (s95, .inl (ks96, 96, .inl (fun _ => 0))), (t97, .inl (kt98, 96, .inl (fun _ => 0)))] [(ks96, .int), (kt98, .int)] H4 locs5 := Z6
  clear Z6
  refine zz_putF (WS' := [(b, .inr (1, [.null, .ref q1, .int r2, .int r3, .int r4, .int r5, .int r6, .int r7])), (q1, .inr (5, [.int 0, .int 0, .int 0, .ref s95, .ref t97])), (s95, .inl (ks96, 96, .inl (fun _ => 0))), (t97, .inl (kt98, 96, .inl (fun _ => 0)))]) X Z7 0 rfl rfl (fun w h => List.mem_cons_of_mem _ (List.mem_append_right _ h)) tyX1 tyX1_ok nmX1 1 rfl (zz_m 7 rfl) rfl hini rfl rfl rfl rfl dX1_init_12 rfl (fun H8 locs9 Z10 => ?_)
  clear Z7
  refine lv_aload_n hx hb dX1_init_15 rfl (lv_at hl 0 rfl) ?_
  refine lv_aload_n hx hb dX1_init_16 rfl (lv_at hl 1 rfl) ?_
  refine zz_putF (WS' := [(b, .inr (1, [.ref ta, .ref q1, .int r2, .int r3, .int r4, .int r5, .int r6, .int r7])), (q1, .inr (5, [.int 0, .int 0, .int 0, .ref s95, .ref t97])), (s95, .inl (ks96, 96, .inl (fun _ => 0))), (t97, .inl (kt98, 96, .inl (fun _ => 0)))]) X Z10 0 rfl rfl (fun w h => List.mem_cons_of_mem _ (List.mem_append_right _ h)) tyX1 tyX1_ok nmX1 0 rfl (zz_m 8 rfl) rfl hini rfl rfl rfl rfl dX1_init_17 rfl (fun H11 locs12 Z13 => ?_)
  clear Z10
  exact zz_vret X hr hlk Z13 (q1, s95, ks96, t97, kt98) trivial [0, 1, 2, 3] [0, 1] (by decide +kernel) rfl rfl dX1_init_20

set_option maxHeartbeats 4000000 in
set_option maxRecDepth 100000 in
theorem c_Bazaar_init (l : Launch) (D : va_G) (V : zz_V) (b : Nat) (tx : Nat)  : zz_MV l yX0_init wsX0_init 2 40 11 48 D V [.ref b, .ref tx] [(b, .inr (0, [.null, .null, .null, .int 0, .int 0, .int 0, .int 0, .int 0, .int 0, .int 0, .int 0, .int 0, .int 0, .int 0]))] [] (fun (u : Nat × ClassId × (Nat → Option Nat) × Nat × ClassId × (Nat → Int32) × Nat × Nat × Nat × Nat × Nat × Nat × Nat × Nat × Nat) => match u with | (st9, ks9, sf9, ct9, kc9, cf9, q0_9, q1_9, q2_9, q3_9, q4_9, q5_9, q6_9, q7_9, q8_9) => (va_rf (sf9 0) = .ref q0_9 ∧ va_rf (sf9 1) = .ref q1_9 ∧ va_rf (sf9 2) = .ref q2_9 ∧ va_rf (sf9 3) = .ref q3_9 ∧ va_rf (sf9 4) = .ref q4_9 ∧ va_rf (sf9 5) = .ref q5_9 ∧ va_rf (sf9 6) = .ref q6_9 ∧ va_rf (sf9 7) = .ref q7_9 ∧ va_rf (sf9 8) = .ref q8_9 ∧ cf9 0 = (-1000000005) ∧ cf9 1 = (-1000000005) ∧ cf9 2 = (-1000000005)) ∧ (True)) (fun (u : Nat × ClassId × (Nat → Option Nat) × Nat × ClassId × (Nat → Int32) × Nat × Nat × Nat × Nat × Nat × Nat × Nat × Nat × Nat) => match u with | (st9, ks9, sf9, ct9, kc9, cf9, q0_9, q1_9, q2_9, q3_9, q4_9, q5_9, q6_9, q7_9, q8_9) => [(b, .inr (0, [.ref tx, .ref st9, .ref ct9, .int 0, .int 0, .int 3, .int 0, .int 0, .int 10, .int 0, .int 0, .int 0, .int 0, .int 1])), (st9, .inl (ks9, 9, .inr (.inr (.inr (.inr sf9))))), (ct9, .inl (kc9, 3, .inl cf9)), (q0_9, .inr (4, [.int 0, .int 0, .int 0, .int 0])), (q1_9, .inr (4, [.int 0, .int 0, .int 0, .int 0])), (q2_9, .inr (4, [.int 0, .int 0, .int 0, .int 0])), (q3_9, .inr (4, [.int 0, .int 0, .int 0, .int 0])), (q4_9, .inr (4, [.int 0, .int 0, .int 0, .int 0])), (q5_9, .inr (4, [.int 0, .int 0, .int 0, .int 0])), (q6_9, .inr (4, [.int 0, .int 0, .int 0, .int 0])), (q7_9, .inr (4, [.int 0, .int 0, .int 0, .int 0])), (q8_9, .inr (4, [.int 0, .int 0, .int 0, .int 0]))]) (fun (u : Nat × ClassId × (Nat → Option Nat) × Nat × ClassId × (Nat → Int32) × Nat × Nat × Nat × Nat × Nat × Nat × Nat × Nat × Nat) => match u with | (st9, ks9, sf9, ct9, kc9, cf9, q0_9, q1_9, q2_9, q3_9, q4_9, q5_9, q6_9, q7_9, q8_9) => [(ks9, .object RX4), (kc9, .int)]) := by
  intro sz
  refine Met.ofW (cc := cX0_init) (maxL := 3) (ret := none) (by decide) rfl ?_
  intro p e s m args below meth c s₁ B hml hv
  obtain ⟨rfl, hC⟩ := hv
  have hx := B.exec
  have hb := B.bytes
  have hr := B.returns
  have hts := atoms_spec (ws := wsX0_init) B.pre
  have hown : s.vm.findClass RX0 = some m.cls := findClass_of_methodNamed B.named
  have hlk := B.notSynchronized
  have hini : meth.name = "<init>" := (name_of_methodNamed B.named B.method).1
  have X : CallFix p m c cX0_init 3 s _ wsX0_init RX0 := ⟨hx, hb, hml, hown, hts⟩
  have Z := zz_enter hC
  generalize va_A [(b, .inr (0, [.null, .null, .null, .int 0, .int 0, .int 0, .int 0, .int 0, .int 0, .int 0, .int 0, .int 0, .int 0, .int 0]))] sz = A at Z ⊢
  have hl := lv_entry ([.ref b, .ref tx]) (n := 3) (Nat.le_of_ble_eq_true rfl)
  rw [lg_entry_eq]
  generalize (lg_sl ([.ref b, .ref tx]) ++ List.replicate (3 - (lg_sl ([.ref b, .ref tx])).length) Slot.unset).toArray = ls at hl ⊢
  have hl : lv_has ls 3 [(0, .ref b), (1, .ref tx)] := hl
  refine lv_aload_n hx hb dX0_init_0 rfl (lv_at hl 0 rfl) ?_
  refine W.objInit hx hb hown (hts _ (zz_m 1 rfl)) (hts _ (zz_m 2 rfl)) (hts _ (zz_m 3 rfl)) rfl (by rw [hml]; exact hl.1) rfl dX0_init_1 (Nat.le_of_ble_eq_true rfl) (Nat.le_of_ble_eq_true rfl) ?_
  refine W.eq (g2 := F0 m 4 ls []) rfl ?_
  refine lv_aload_n hx hb dX0_init_4 rfl (lv_at hl 0 rfl) ?_
  refine lv_bipush (v := 9) hx hb dX0_init_5 (by decide) ?_
  refine zz_newq (k := 1) (n := 9) (N' := 9) X Z (zz_m 4 rfl) (zz_m 3 rfl) (by decide) (by decide) rfl rfl rfl rfl rfl dX0_init_7 (fun q1 k2 H1 Z2 => ?_)
  clear Z
  have Z3 : zz_S D V A s [(b, .inr (0, [.null, .null, .null, .int 0, .int 0, .int 0, .int 0, .int 0, .int 0, .int 0, .int 0, .int 0, .int 0, .int 0])), (q1, .inl (k2, 9, .inr (.inr (.inr (.inr (fun _ => none))))))] [(k2, .object RX4)] H1 _ := Z2
  clear Z2
  refine zz_putF (WS' := [(b, .inr (0, [.null, .ref q1, .null, .int 0, .int 0, .int 0, .int 0, .int 0, .int 0, .int 0, .int 0, .int 0, .int 0, .int 0])), (q1, .inl (k2, 9, .inr (.inr (.inr (.inr (fun _ => none))))))]) X Z3 0 rfl rfl (fun w h => List.mem_cons_of_mem _ (List.mem_append_left _ (List.mem_append_right _ h))) tyX0 tyX0_ok nmX0 1 rfl (zz_m 5 rfl) rfl hini rfl rfl rfl rfl dX0_init_10 rfl (fun H4 locs5 Z6 => ?_)
  clear Z3
  refine lv_aload_n hx hb dX0_init_13 rfl (lv_at hl 0 rfl) ?_
  refine lv_iconst (v := 3) hx hb dX0_init_14 (by decide) ?_
  refine zz_newi (k := 2) (n := 12) (N' := 3) X Z6 (zz_m 6 rfl) (by decide) (by decide) rfl rfl rfl rfl rfl dX0_init_15 (fun q3 k4 H7 Z8 => ?_)
  clear Z6
  have Z9 : zz_S D V A s [(b, .inr (0, [.null, .ref q1, .null, .int 0, .int 0, .int 0, .int 0, .int 0, .int 0, .int 0, .int 0, .int 0, .int 0, .int 0])), (q1, .inl (k2, 9, .inr (.inr (.inr (.inr (fun _ => none)))))), (q3, .inl (k4, 3, .inl (fun _ => 0)))] [(k2, .object RX4), (k4, .int)] H7 _ := Z8
  clear Z8
  refine lv_dup hx hb dX0_init_17 rfl ?_
  refine lv_iconst (v := 0) hx hb dX0_init_18 (by decide) ?_
  refine lv_ldc (v := (-1000000005)) hx hb hown (hts _ (zz_m 7 rfl)) dX0_init_19 ?_
  refine zz_istN (WS' := fun f5 => [(b, .inr (0, [.null, .ref q1, .null, .int 0, .int 0, .int 0, .int 0, .int 0, .int 0, .int 0, .int 0, .int 0, .int 0, .int 0])), (q1, .inl (k2, 9, .inr (.inr (.inr (.inr (fun _ => none)))))), (q3, .inl (k4, 3, .inl f5))]) X Z9 2 1 rfl rfl (zz_in 0 3 rfl) dX0_init_21 (fun _ => rfl) (fun f5 ef6 H10 locs11 Z12 => ?_)
  clear Z9
  refine lv_dup hx hb dX0_init_22 rfl ?_
  refine lv_iconst (v := 1) hx hb dX0_init_23 (by decide) ?_
  refine lv_ldc (v := (-1000000005)) hx hb hown (hts _ (zz_m 7 rfl)) dX0_init_24 ?_
  refine zz_istN (WS' := fun f7 => [(b, .inr (0, [.null, .ref q1, .null, .int 0, .int 0, .int 0, .int 0, .int 0, .int 0, .int 0, .int 0, .int 0, .int 0, .int 0])), (q1, .inl (k2, 9, .inr (.inr (.inr (.inr (fun _ => none)))))), (q3, .inl (k4, 3, .inl f7))]) X Z12 2 1 rfl rfl (zz_in 1 3 rfl) dX0_init_26 (fun _ => rfl) (fun f7 ef8 H13 locs14 Z15 => ?_)
  clear Z12
  refine lv_dup hx hb dX0_init_27 rfl ?_
  refine lv_iconst (v := 2) hx hb dX0_init_28 (by decide) ?_
  refine lv_ldc (v := (-1000000005)) hx hb hown (hts _ (zz_m 7 rfl)) dX0_init_29 ?_
  refine zz_istN (WS' := fun f9 => [(b, .inr (0, [.null, .ref q1, .null, .int 0, .int 0, .int 0, .int 0, .int 0, .int 0, .int 0, .int 0, .int 0, .int 0, .int 0])), (q1, .inl (k2, 9, .inr (.inr (.inr (.inr (fun _ => none)))))), (q3, .inl (k4, 3, .inl f9))]) X Z15 2 1 rfl rfl (zz_in 2 3 rfl) dX0_init_31 (fun _ => rfl) (fun f9 ef10 H16 locs17 Z18 => ?_)
  clear Z15
  refine zz_putF (WS' := [(b, .inr (0, [.null, .ref q1, .ref q3, .int 0, .int 0, .int 0, .int 0, .int 0, .int 0, .int 0, .int 0, .int 0, .int 0, .int 0])), (q1, .inl (k2, 9, .inr (.inr (.inr (.inr (fun _ => none)))))), (q3, .inl (k4, 3, .inl f9))]) X Z18 0 rfl rfl (fun w h => List.mem_cons_of_mem _ (List.mem_append_left _ (List.mem_append_right _ h))) tyX0 tyX0_ok nmX0 2 rfl (zz_m 8 rfl) rfl hini rfl rfl rfl rfl dX0_init_32 rfl (fun H19 locs20 Z21 => ?_)
  clear Z18
  refine lv_aload_n hx hb dX0_init_35 rfl (lv_at hl 0 rfl) ?_
  refine lv_iconst (v := 3) hx hb dX0_init_36 (by decide) ?_
  refine zz_put (WS' := [(b, .inr (0, [.null, .ref q1, .ref q3, .int 0, .int 0, .int 3, .int 0, .int 0, .int 0, .int 0, .int 0, .int 0, .int 0, .int 0])), (q1, .inl (k2, 9, .inr (.inr (.inr (.inr (fun _ => none)))))), (q3, .inl (k4, 3, .inl f9))]) X Z21 0 rfl rfl (fun w h => List.mem_cons_of_mem _ (List.mem_append_left _ (List.mem_append_right _ h))) tyX0 tyX0_ok nmX0 5 rfl (zz_m 9 rfl) rfl rfl rfl rfl dX0_init_37 rfl (fun H22 locs23 Z24 => ?_)
  clear Z21
  refine lv_aload_n hx hb dX0_init_40 rfl (lv_at hl 0 rfl) ?_
  refine lv_bipush (v := 10) hx hb dX0_init_41 (by decide) ?_
  refine zz_put (WS' := [(b, .inr (0, [.null, .ref q1, .ref q3, .int 0, .int 0, .int 3, .int 0, .int 0, .int 10, .int 0, .int 0, .int 0, .int 0, .int 0])), (q1, .inl (k2, 9, .inr (.inr (.inr (.inr (fun _ => none)))))), (q3, .inl (k4, 3, .inl f9))]) X Z24 0 rfl rfl (fun w h => List.mem_cons_of_mem _ (List.mem_append_left _ (List.mem_append_right _ h))) tyX0 tyX0_ok nmX0 8 rfl (zz_m 10 rfl) rfl rfl rfl rfl dX0_init_43 rfl (fun H25 locs26 Z27 => ?_)
  clear Z24
  refine lv_aload_n hx hb dX0_init_46 rfl (lv_at hl 0 rfl) ?_
  refine lv_iconst (v := 0) hx hb dX0_init_47 (by decide) ?_
  refine zz_put (WS' := [(b, .inr (0, [.null, .ref q1, .ref q3, .int 0, .int 0, .int 3, .int 0, .int 0, .int 10, .int 0, .int 0, .int 0, .int 0, .int 0])), (q1, .inl (k2, 9, .inr (.inr (.inr (.inr (fun _ => none)))))), (q3, .inl (k4, 3, .inl f9))]) X Z27 0 rfl rfl (fun w h => List.mem_cons_of_mem _ (List.mem_append_left _ (List.mem_append_right _ h))) tyX0 tyX0_ok nmX0 9 rfl (zz_m 11 rfl) rfl rfl rfl rfl dX0_init_48 rfl (fun H28 locs29 Z30 => ?_)
  clear Z27
  refine lv_aload_n hx hb dX0_init_51 rfl (lv_at hl 0 rfl) ?_
  refine lv_iconst (v := 1) hx hb dX0_init_52 (by decide) ?_
  refine zz_put (WS' := [(b, .inr (0, [.null, .ref q1, .ref q3, .int 0, .int 0, .int 3, .int 0, .int 0, .int 10, .int 0, .int 0, .int 0, .int 0, .int 1])), (q1, .inl (k2, 9, .inr (.inr (.inr (.inr (fun _ => none)))))), (q3, .inl (k4, 3, .inl f9))]) X Z30 0 rfl rfl (fun w h => List.mem_cons_of_mem _ (List.mem_append_left _ (List.mem_append_right _ h))) tyX0 tyX0_ok nmX0 13 rfl (zz_m 12 rfl) rfl rfl rfl rfl dX0_init_53 rfl (fun H31 locs32 Z33 => ?_)
  clear Z30
  refine lv_aload_n hx hb dX0_init_56 rfl (lv_at hl 0 rfl) ?_
  refine lv_aload_n hx hb dX0_init_57 rfl (lv_at hl 1 rfl) ?_
  refine zz_putF (WS' := [(b, .inr (0, [.ref tx, .ref q1, .ref q3, .int 0, .int 0, .int 3, .int 0, .int 0, .int 10, .int 0, .int 0, .int 0, .int 0, .int 1])), (q1, .inl (k2, 9, .inr (.inr (.inr (.inr (fun _ => none)))))), (q3, .inl (k4, 3, .inl f9))]) X Z33 0 rfl rfl (fun w h => List.mem_cons_of_mem _ (List.mem_append_left _ (List.mem_append_right _ h))) tyX0 tyX0_ok nmX0 0 rfl (zz_m 13 rfl) rfl hini rfl rfl rfl rfl dX0_init_58 rfl (fun H34 locs35 Z36 => ?_)
  clear Z33
  refine lv_iconst (v := 0) hx hb dX0_init_61 (by decide) ?_
  refine lv_istore_n (lv' := [(2, .int 0), (0, .ref b), (1, .ref tx)]) hx hb dX0_init_62 rfl hl (by decide) rfl (fun ls37 hl38 => ?_)
  clear hl
  refine lv_iload_n hx hb dX0_init_63 rfl (lv_at hl38 0 rfl) ?_
  refine lv_bipush (v := 9) hx hb dX0_init_64 (by decide) ?_
  refine lv_icmp_ge (tgt := 88) hx hb dX0_init_66 (by decide) (fun h => absurd h (by decide)) (fun _ => ?_)
  refine lv_aload_n hx hb dX0_init_69 rfl (lv_at hl38 1 rfl) ?_
  refine zz_get X Z36 0 rfl rfl (fun w h => List.mem_cons_of_mem _ (List.mem_append_left _ (List.mem_append_right _ h))) 1 rfl (zz_m 5 rfl) rfl dX0_init_70 ?_
  refine lv_iload_n hx hb dX0_init_73 rfl (lv_at hl38 0 rfl) ?_
  refine zz_new (ci := 4) (fs := [.int 0, .int 0, .int 0, .int 0]) (k := 3) (n := 16) X Z36 rfl (fun w h => List.mem_cons_of_mem _ (List.mem_append_right _ h)) tyX4 tyX4_ok (zz_m 4 rfl) (zz_m 14 rfl) (zz_m 15 rfl) zf_X4 rfl rfl rfl rfl dX0_init_74 (fun q11 H39 Z40 => ?_)
  clear Z36
  have Z41 : zz_S D V A s [(b, .inr (0, [.ref tx, .ref q1, .ref q3, .int 0, .int 0, .int 3, .int 0, .int 0, .int 10, .int 0, .int 0, .int 0, .int 0, .int 1])), (q1, .inl (k2, 9, .inr (.inr (.inr (.inr (fun _ => none)))))), (q3, .inl (k4, 3, .inl f9)), (q11, .inr (4, [.int 0, .int 0, .int 0, .int 0]))] [(k2, .object RX4), (k4, .int)] H39 _ := Z40
  clear Z40
  refine lv_dup hx hb dX0_init_77 rfl ?_
  refine zz_cv (WC := [(q11, .inr (4, [.int 0, .int 0, .int 0, .int 0]))]) (TC := []) (WR := [(b, .inr (0, [.ref tx, .ref q1, .ref q3, .int 0, .int 0, .int 3, .int 0, .int 0, .int 10, .int 0, .int 0, .int 0, .int 0, .int 1])), (q1, .inl (k2, 9, .inr (.inr (.inr (.inr (fun _ => none)))))), (q3, .inl (k4, 3, .inl f9))]) (TR := [(k2, .object RX4), (k4, .int)]) (k := 3) (n := 16) Z41 [3] [0, 1, 2] [] [0, 1] rfl rfl (by decide +kernel) (by decide +kernel) (by decide +kernel) rfl rfl (fun Zc => va_runIN (As := []) (rest := [.ref q11, .int 0, .ref q1]) X (c_Stall_init l D V q11 0 0 0 0 H39.size) ⟨va_cnB 0 hts gX0_init_X4_init_n39 rfl rfl rfl (zz_nw (q := (RX0, 39, yX4_init, RX6)) Z41.2.2.2.2.2 4 rfl) (hts _ (zz_m 15 rfl)) zh_X4_init ⟨Nat.le_of_ble_eq_true rfl, Nat.le_of_ble_eq_true rfl⟩, rfl, hts _ (zz_m 16 rfl)⟩ (zz_pS Zc) rfl rfl hl38.1 rfl (lv_room (Nat.le_of_ble_eq_true rfl)) dX0_init_78 ⟨Nat.le_of_ble_eq_true rfl, Nat.le_of_ble_eq_true rfl⟩) rfl rfl (fun u12 H42 locs43 hw13 Z44 => ?_)
  clear Z41
  have Z45 : zz_S D V A s [(b, .inr (0, [.ref tx, .ref q1, .ref q3, .int 0, .int 0, .int 3, .int 0, .int 0, .int 10, .int 0, .int 0, .int 0, .int 0, .int 1])), (q1, .inl (k2, 9, .inr (.inr (.inr (.inr (fun _ => none)))))), (q3, .inl (k4, 3, .inl f9)), (q11, .inr (4, [.int 0, .int 0, .int 0, .int 0]))] [(k2, .object RX4), (k4, .int)] H42 locs43 := Z44
  clear Z44
  refine zz_astN (WS' := fun g15 => [(b, .inr (0, [.ref tx, .ref q1, .ref q3, .int 0, .int 0, .int 3, .int 0, .int 0, .int 10, .int 0, .int 0, .int 0, .int 0, .int 1])), (q1, .inl (k2, 9, .inr (.inr (.inr (.inr g15))))), (q3, .inl (k4, 3, .inl f9)), (q11, .inr (4, [.int 0, .int 0, .int 0, .int 0]))]) X Z45 1 0 3 4 rfl rfl rfl rfl (zz_in 0 9 rfl) dX0_init_81 (fun _ => rfl) (fun g15 eg16 H46 locs47 Z48 => ?_)
  clear Z45
  have p17 : va_rf (g15 0) = .ref q11 := by rw [eg16]; rfl
  refine lv_iinc (v := 1) (lv' := [(2, .int 1), (0, .ref b), (1, .ref tx)]) hx hb dX0_init_82 hl38 (k := 0) rfl (by decide) (by decide) rfl (fun ls49 hl50 => ?_)
  clear hl38
  refine lv_goto (tgt := 63) hx hb dX0_init_85 (by decide) ?_
  refine lv_iload_n hx hb dX0_init_63 rfl (lv_at hl50 0 rfl) ?_
  refine lv_bipush (v := 9) hx hb dX0_init_64 (by decide) ?_
  refine lv_icmp_ge (tgt := 88) hx hb dX0_init_66 (by decide) (fun h => absurd h (by decide)) (fun _ => ?_)
  refine lv_aload_n hx hb dX0_init_69 rfl (lv_at hl50 1 rfl) ?_
  refine zz_get X Z48 0 rfl rfl (fun w h => List.mem_cons_of_mem _ (List.mem_append_left _ (List.mem_append_right _ h))) 1 rfl (zz_m 5 rfl) rfl dX0_init_70 ?_
  refine lv_iload_n hx hb dX0_init_73 rfl (lv_at hl50 0 rfl) ?_
  refine zz_new (ci := 4) (fs := [.int 0, .int 0, .int 0, .int 0]) (k := 4) (n := 20) X Z48 rfl (fun w h => List.mem_cons_of_mem _ (List.mem_append_right _ h)) tyX4 tyX4_ok (zz_m 4 rfl) (zz_m 14 rfl) (zz_m 15 rfl) zf_X4 rfl rfl rfl rfl dX0_init_74 (fun q18 H51 Z52 => ?_)
  clear Z48
  have Z53 : zz_S D V A s [(b, .inr (0, [.ref tx, .ref q1, .ref q3, .int 0, .int 0, .int 3, .int 0, .int 0, .int 10, .int 0, .int 0, .int 0, .int 0, .int 1])), (q1, .inl (k2, 9, .inr (.inr (.inr (.inr g15))))), (q3, .inl (k4, 3, .inl f9)), (q11, .inr (4, [.int 0, .int 0, .int 0, .int 0])), (q18, .inr (4, [.int 0, .int 0, .int 0, .int 0]))] [(k2, .object RX4), (k4, .int)] H51 _ := Z52
  clear Z52
  refine lv_dup hx hb dX0_init_77 rfl ?_
  refine zz_cv (WC := [(q18, .inr (4, [.int 0, .int 0, .int 0, .int 0]))]) (TC := []) (WR := [(b, .inr (0, [.ref tx, .ref q1, .ref q3, .int 0, .int 0, .int 3, .int 0, .int 0, .int 10, .int 0, .int 0, .int 0, .int 0, .int 1])), (q1, .inl (k2, 9, .inr (.inr (.inr (.inr g15))))), (q3, .inl (k4, 3, .inl f9)), (q11, .inr (4, [.int 0, .int 0, .int 0, .int 0]))]) (TR := [(k2, .object RX4), (k4, .int)]) (k := 4) (n := 20) Z53 [4] [0, 1, 2, 3] [] [0, 1] rfl rfl (by decide +kernel) (by decide +kernel) (by decide +kernel) rfl rfl (fun Zc => va_runIN (As := []) (rest := [.ref q18, .int 1, .ref q1]) X (c_Stall_init l D V q18 0 0 0 0 H51.size) ⟨va_cnB 0 hts gX0_init_X4_init_n39 rfl rfl rfl (zz_nw (q := (RX0, 39, yX4_init, RX6)) Z53.2.2.2.2.2 4 rfl) (hts _ (zz_m 15 rfl)) zh_X4_init ⟨Nat.le_of_ble_eq_true rfl, Nat.le_of_ble_eq_true rfl⟩, rfl, hts _ (zz_m 16 rfl)⟩ (zz_pS Zc) rfl rfl hl50.1 rfl (lv_room (Nat.le_of_ble_eq_true rfl)) dX0_init_78 ⟨Nat.le_of_ble_eq_true rfl, Nat.le_of_ble_eq_true rfl⟩) rfl rfl (fun u19 H54 locs55 hw20 Z56 => ?_)
  clear Z53
  have Z57 : zz_S D V A s [(b, .inr (0, [.ref tx, .ref q1, .ref q3, .int 0, .int 0, .int 3, .int 0, .int 0, .int 10, .int 0, .int 0, .int 0, .int 0, .int 1])), (q1, .inl (k2, 9, .inr (.inr (.inr (.inr g15))))), (q3, .inl (k4, 3, .inl f9)), (q11, .inr (4, [.int 0, .int 0, .int 0, .int 0])), (q18, .inr (4, [.int 0, .int 0, .int 0, .int 0]))] [(k2, .object RX4), (k4, .int)] H54 locs55 := Z56
  clear Z56
  refine zz_astN (WS' := fun g22 => [(b, .inr (0, [.ref tx, .ref q1, .ref q3, .int 0, .int 0, .int 3, .int 0, .int 0, .int 10, .int 0, .int 0, .int 0, .int 0, .int 1])), (q1, .inl (k2, 9, .inr (.inr (.inr (.inr g22))))), (q3, .inl (k4, 3, .inl f9)), (q11, .inr (4, [.int 0, .int 0, .int 0, .int 0])), (q18, .inr (4, [.int 0, .int 0, .int 0, .int 0]))]) X Z57 1 0 4 4 rfl rfl rfl rfl (zz_in 1 9 rfl) dX0_init_81 (fun _ => rfl) (fun g22 eg23 H58 locs59 Z60 => ?_)
  clear Z57
  have p24 : va_rf (g22 1) = .ref q18 := by rw [eg23]; rfl
  have p25 : va_rf (g22 0) = .ref q11 := by rw [eg23]; exact p17
  clear p17
  refine lv_iinc (v := 2) (lv' := [(2, .int 2), (0, .ref b), (1, .ref tx)]) hx hb dX0_init_82 hl50 (k := 0) rfl (by decide) (by decide) rfl (fun ls61 hl62 => ?_)
  clear hl50
  refine lv_goto (tgt := 63) hx hb dX0_init_85 (by decide) ?_
  refine lv_iload_n hx hb dX0_init_63 rfl (lv_at hl62 0 rfl) ?_
  refine lv_bipush (v := 9) hx hb dX0_init_64 (by decide) ?_
  refine lv_icmp_ge (tgt := 88) hx hb dX0_init_66 (by decide) (fun h => absurd h (by decide)) (fun _ => ?_)
  refine lv_aload_n hx hb dX0_init_69 rfl (lv_at hl62 1 rfl) ?_
  refine zz_get X Z60 0 rfl rfl (fun w h => List.mem_cons_of_mem _ (List.mem_append_left _ (List.mem_append_right _ h))) 1 rfl (zz_m 5 rfl) rfl dX0_init_70 ?_
  refine lv_iload_n hx hb dX0_init_73 rfl (lv_at hl62 0 rfl) ?_
  refine zz_new (ci := 4) (fs := [.int 0, .int 0, .int 0, .int 0]) (k := 5) (n := 24) X Z60 rfl (fun w h => List.mem_cons_of_mem _ (List.mem_append_right _ h)) tyX4 tyX4_ok (zz_m 4 rfl) (zz_m 14 rfl) (zz_m 15 rfl) zf_X4 rfl rfl rfl rfl dX0_init_74 (fun q26 H63 Z64 => ?_)
  clear Z60
  have Z65 : zz_S D V A s [(b, .inr (0, [.ref tx, .ref q1, .ref q3, .int 0, .int 0, .int 3, .int 0, .int 0, .int 10, .int 0, .int 0, .int 0, .int 0, .int 1])), (q1, .inl (k2, 9, .inr (.inr (.inr (.inr g22))))), (q3, .inl (k4, 3, .inl f9)), (q11, .inr (4, [.int 0, .int 0, .int 0, .int 0])), (q18, .inr (4, [.int 0, .int 0, .int 0, .int 0])), (q26, .inr (4, [.int 0, .int 0, .int 0, .int 0]))] [(k2, .object RX4), (k4, .int)] H63 _ := Z64
  clear Z64
  refine lv_dup hx hb dX0_init_77 rfl ?_
  refine zz_cv (WC := [(q26, .inr (4, [.int 0, .int 0, .int 0, .int 0]))]) (TC := []) (WR := [(b, .inr (0, [.ref tx, .ref q1, .ref q3, .int 0, .int 0, .int 3, .int 0, .int 0, .int 10, .int 0, .int 0, .int 0, .int 0, .int 1])), (q1, .inl (k2, 9, .inr (.inr (.inr (.inr g22))))), (q3, .inl (k4, 3, .inl f9)), (q11, .inr (4, [.int 0, .int 0, .int 0, .int 0])), (q18, .inr (4, [.int 0, .int 0, .int 0, .int 0]))]) (TR := [(k2, .object RX4), (k4, .int)]) (k := 5) (n := 24) Z65 [5] [0, 1, 2, 3, 4] [] [0, 1] rfl rfl (by decide +kernel) (by decide +kernel) (by decide +kernel) rfl rfl (fun Zc => va_runIN (As := []) (rest := [.ref q26, .int 2, .ref q1]) X (c_Stall_init l D V q26 0 0 0 0 H63.size) ⟨va_cnB 0 hts gX0_init_X4_init_n39 rfl rfl rfl (zz_nw (q := (RX0, 39, yX4_init, RX6)) Z65.2.2.2.2.2 4 rfl) (hts _ (zz_m 15 rfl)) zh_X4_init ⟨Nat.le_of_ble_eq_true rfl, Nat.le_of_ble_eq_true rfl⟩, rfl, hts _ (zz_m 16 rfl)⟩ (zz_pS Zc) rfl rfl hl62.1 rfl (lv_room (Nat.le_of_ble_eq_true rfl)) dX0_init_78 ⟨Nat.le_of_ble_eq_true rfl, Nat.le_of_ble_eq_true rfl⟩) rfl rfl (fun u27 H66 locs67 hw28 Z68 => ?_)
  clear Z65
  have Z69 : zz_S D V A s [(b, .inr (0, [.ref tx, .ref q1, .ref q3, .int 0, .int 0, .int 3, .int 0, .int 0, .int 10, .int 0, .int 0, .int 0, .int 0, .int 1])), (q1, .inl (k2, 9, .inr (.inr (.inr (.inr g22))))), (q3, .inl (k4, 3, .inl f9)), (q11, .inr (4, [.int 0, .int 0, .int 0, .int 0])), (q18, .inr (4, [.int 0, .int 0, .int 0, .int 0])), (q26, .inr (4, [.int 0, .int 0, .int 0, .int 0]))] [(k2, .object RX4), (k4, .int)] H66 locs67 := Z68
  clear Z68
  refine zz_astN (WS' := fun g30 => [(b, .inr (0, [.ref tx, .ref q1, .ref q3, .int 0, .int 0, .int 3, .int 0, .int 0, .int 10, .int 0, .int 0, .int 0, .int 0, .int 1])), (q1, .inl (k2, 9, .inr (.inr (.inr (.inr g30))))), (q3, .inl (k4, 3, .inl f9)), (q11, .inr (4, [.int 0, .int 0, .int 0, .int 0])), (q18, .inr (4, [.int 0, .int 0, .int 0, .int 0])), (q26, .inr (4, [.int 0, .int 0, .int 0, .int 0]))]) X Z69 1 0 5 4 rfl rfl rfl rfl (zz_in 2 9 rfl) dX0_init_81 (fun _ => rfl) (fun g30 eg31 H70 locs71 Z72 => ?_)
  clear Z69
  have p32 : va_rf (g30 2) = .ref q26 := by rw [eg31]; rfl
  have p33 : va_rf (g30 1) = .ref q18 := by rw [eg31]; exact p24
  clear p24
  have p34 : va_rf (g30 0) = .ref q11 := by rw [eg31]; exact p25
  clear p25
  refine lv_iinc (v := 3) (lv' := [(2, .int 3), (0, .ref b), (1, .ref tx)]) hx hb dX0_init_82 hl62 (k := 0) rfl (by decide) (by decide) rfl (fun ls73 hl74 => ?_)
  clear hl62
  refine lv_goto (tgt := 63) hx hb dX0_init_85 (by decide) ?_
  refine lv_iload_n hx hb dX0_init_63 rfl (lv_at hl74 0 rfl) ?_
  refine lv_bipush (v := 9) hx hb dX0_init_64 (by decide) ?_
  refine lv_icmp_ge (tgt := 88) hx hb dX0_init_66 (by decide) (fun h => absurd h (by decide)) (fun _ => ?_)
  refine lv_aload_n hx hb dX0_init_69 rfl (lv_at hl74 1 rfl) ?_
  refine zz_get X Z72 0 rfl rfl (fun w h => List.mem_cons_of_mem _ (List.mem_append_left _ (List.mem_append_right _ h))) 1 rfl (zz_m 5 rfl) rfl dX0_init_70 ?_
  refine lv_iload_n hx hb dX0_init_73 rfl (lv_at hl74 0 rfl) ?_
  refine zz_new (ci := 4) (fs := [.int 0, .int 0, .int 0, .int 0]) (k := 6) (n := 28) X Z72 rfl (fun w h => List.mem_cons_of_mem _ (List.mem_append_right _ h)) tyX4 tyX4_ok (zz_m 4 rfl) (zz_m 14 rfl) (zz_m 15 rfl) zf_X4 rfl rfl rfl rfl dX0_init_74 (fun q35 H75 Z76 => ?_)
  clear Z72
  have Z77 : zz_S D V A s [(b, .inr (0, [.ref tx, .ref q1, .ref q3, .int 0, .int 0, .int 3, .int 0, .int 0, .int 10, .int 0, .int 0, .int 0, .int 0, .int 1])), (q1, .inl (k2, 9, .inr (.inr (.inr (.inr g30))))), (q3, .inl (k4, 3, .inl f9)), (q11, .inr (4, [.int 0, .int 0, .int 0, .int 0])), (q18, .inr (4, [.int 0, .int 0, .int 0, .int 0])), (q26, .inr (4, [.int 0, .int 0, .int 0, .int 0])), (q35, .inr (4, [.int 0, .int 0, .int 0, .int 0]))] [(k2, .object RX4), (k4, .int)] H75 _ := Z76
  clear Z76
  refine lv_dup hx hb dX0_init_77 rfl ?_
  refine zz_cv (WC := [(q35, .inr (4, [.int 0, .int 0, .int 0, .int 0]))]) (TC := []) (WR := [(b, .inr (0, [.ref tx, .ref q1, .ref q3, .int 0, .int 0, .int 3, .int 0, .int 0, .int 10, .int 0, .int 0, .int 0, .int 0, .int 1])), (q1, .inl (k2, 9, .inr (.inr (.inr (.inr g30))))), (q3, .inl (k4, 3, .inl f9)), (q11, .inr (4, [.int 0, .int 0, .int 0, .int 0])), (q18, .inr (4, [.int 0, .int 0, .int 0, .int 0])), (q26, .inr (4, [.int 0, .int 0, .int 0, .int 0]))]) (TR := [(k2, .object RX4), (k4, .int)]) (k := 6) (n := 28) Z77 [6] [0, 1, 2, 3, 4, 5] [] [0, 1] rfl rfl (by decide +kernel) (by decide +kernel) (by decide +kernel) rfl rfl (fun Zc => va_runIN (As := []) (rest := [.ref q35, .int 3, .ref q1]) X (c_Stall_init l D V q35 0 0 0 0 H75.size) ⟨va_cnB 0 hts gX0_init_X4_init_n39 rfl rfl rfl (zz_nw (q := (RX0, 39, yX4_init, RX6)) Z77.2.2.2.2.2 4 rfl) (hts _ (zz_m 15 rfl)) zh_X4_init ⟨Nat.le_of_ble_eq_true rfl, Nat.le_of_ble_eq_true rfl⟩, rfl, hts _ (zz_m 16 rfl)⟩ (zz_pS Zc) rfl rfl hl74.1 rfl (lv_room (Nat.le_of_ble_eq_true rfl)) dX0_init_78 ⟨Nat.le_of_ble_eq_true rfl, Nat.le_of_ble_eq_true rfl⟩) rfl rfl (fun u36 H78 locs79 hw37 Z80 => ?_)
  clear Z77
  have Z81 : zz_S D V A s [(b, .inr (0, [.ref tx, .ref q1, .ref q3, .int 0, .int 0, .int 3, .int 0, .int 0, .int 10, .int 0, .int 0, .int 0, .int 0, .int 1])), (q1, .inl (k2, 9, .inr (.inr (.inr (.inr g30))))), (q3, .inl (k4, 3, .inl f9)), (q11, .inr (4, [.int 0, .int 0, .int 0, .int 0])), (q18, .inr (4, [.int 0, .int 0, .int 0, .int 0])), (q26, .inr (4, [.int 0, .int 0, .int 0, .int 0])), (q35, .inr (4, [.int 0, .int 0, .int 0, .int 0]))] [(k2, .object RX4), (k4, .int)] H78 locs79 := Z80
  clear Z80
  refine zz_astN (WS' := fun g39 => [(b, .inr (0, [.ref tx, .ref q1, .ref q3, .int 0, .int 0, .int 3, .int 0, .int 0, .int 10, .int 0, .int 0, .int 0, .int 0, .int 1])), (q1, .inl (k2, 9, .inr (.inr (.inr (.inr g39))))), (q3, .inl (k4, 3, .inl f9)), (q11, .inr (4, [.int 0, .int 0, .int 0, .int 0])), (q18, .inr (4, [.int 0, .int 0, .int 0, .int 0])), (q26, .inr (4, [.int 0, .int 0, .int 0, .int 0])), (q35, .inr (4, [.int 0, .int 0, .int 0, .int 0]))]) X Z81 1 0 6 4 rfl rfl rfl rfl (zz_in 3 9 rfl) dX0_init_81 (fun _ => rfl) (fun g39 eg40 H82 locs83 Z84 => ?_)
  clear Z81
  have p41 : va_rf (g39 3) = .ref q35 := by rw [eg40]; rfl
  have p42 : va_rf (g39 2) = .ref q26 := by rw [eg40]; exact p32
  clear p32
  have p43 : va_rf (g39 1) = .ref q18 := by rw [eg40]; exact p33
  clear p33
  have p44 : va_rf (g39 0) = .ref q11 := by rw [eg40]; exact p34
  clear p34
  refine lv_iinc (v := 4) (lv' := [(2, .int 4), (0, .ref b), (1, .ref tx)]) hx hb dX0_init_82 hl74 (k := 0) rfl (by decide) (by decide) rfl (fun ls85 hl86 => ?_)
  clear hl74
  refine lv_goto (tgt := 63) hx hb dX0_init_85 (by decide) ?_
  refine lv_iload_n hx hb dX0_init_63 rfl (lv_at hl86 0 rfl) ?_
  refine lv_bipush (v := 9) hx hb dX0_init_64 (by decide) ?_
  refine lv_icmp_ge (tgt := 88) hx hb dX0_init_66 (by decide) (fun h => absurd h (by decide)) (fun _ => ?_)
  refine lv_aload_n hx hb dX0_init_69 rfl (lv_at hl86 1 rfl) ?_
  refine zz_get X Z84 0 rfl rfl (fun w h => List.mem_cons_of_mem _ (List.mem_append_left _ (List.mem_append_right _ h))) 1 rfl (zz_m 5 rfl) rfl dX0_init_70 ?_
  refine lv_iload_n hx hb dX0_init_73 rfl (lv_at hl86 0 rfl) ?_
  refine zz_new (ci := 4) (fs := [.int 0, .int 0, .int 0, .int 0]) (k := 7) (n := 32) X Z84 rfl (fun w h => List.mem_cons_of_mem _ (List.mem_append_right _ h)) tyX4 tyX4_ok (zz_m 4 rfl) (zz_m 14 rfl) (zz_m 15 rfl) zf_X4 rfl rfl rfl rfl dX0_init_74 (fun q45 H87 Z88 => ?_)
  clear Z84
  have Z89 : zz_S D V A s [(b, .inr (0, [.ref tx, .ref q1, .ref q3, .int 0, .int 0, .int 3, .int 0, .int 0, .int 10, .int 0, .int 0, .int 0, .int 0, .int 1])), (q1, .inl (k2, 9, .inr (.inr (.inr (.inr g39))))), (q3, .inl (k4, 3, .inl f9)), (q11, .inr (4, [.int 0, .int 0, .int 0, .int 0])), (q18, .inr (4, [.int 0, .int 0, .int 0, .int 0])), (q26, .inr (4, [.int 0, .int 0, .int 0, .int 0])), (q35, .inr (4, [.int 0, .int 0, .int 0, .int 0])), (q45, .inr (4, [.int 0, .int 0, .int 0, .int 0]))] [(k2, .object RX4), (k4, .int)] H87 _ := Z88
  clear Z88
  refine lv_dup hx hb dX0_init_77 rfl ?_
  refine zz_cv (WC := [(q45, .inr (4, [.int 0, .int 0, .int 0, .int 0]))]) (TC := []) (WR := [(b, .inr (0, [.ref tx, .ref q1, .ref q3, .int 0, .int 0, .int 3, .int 0, .int 0, .int 10, .int 0, .int 0, .int 0, .int 0, .int 1])), (q1, .inl (k2, 9, .inr (.inr (.inr (.inr g39))))), (q3, .inl (k4, 3, .inl f9)), (q11, .inr (4, [.int 0, .int 0, .int 0, .int 0])), (q18, .inr (4, [.int 0, .int 0, .int 0, .int 0])), (q26, .inr (4, [.int 0, .int 0, .int 0, .int 0])), (q35, .inr (4, [.int 0, .int 0, .int 0, .int 0]))]) (TR := [(k2, .object RX4), (k4, .int)]) (k := 7) (n := 32) Z89 [7] [0, 1, 2, 3, 4, 5, 6] [] [0, 1] rfl rfl (by decide +kernel) (by decide +kernel) (by decide +kernel) rfl rfl (fun Zc => va_runIN (As := []) (rest := [.ref q45, .int 4, .ref q1]) X (c_Stall_init l D V q45 0 0 0 0 H87.size) ⟨va_cnB 0 hts gX0_init_X4_init_n39 rfl rfl rfl (zz_nw (q := (RX0, 39, yX4_init, RX6)) Z89.2.2.2.2.2 4 rfl) (hts _ (zz_m 15 rfl)) zh_X4_init ⟨Nat.le_of_ble_eq_true rfl, Nat.le_of_ble_eq_true rfl⟩, rfl, hts _ (zz_m 16 rfl)⟩ (zz_pS Zc) rfl rfl hl86.1 rfl (lv_room (Nat.le_of_ble_eq_true rfl)) dX0_init_78 ⟨Nat.le_of_ble_eq_true rfl, Nat.le_of_ble_eq_true rfl⟩) rfl rfl (fun u46 H90 locs91 hw47 Z92 => ?_)
  clear Z89
  have Z93 : zz_S D V A s [(b, .inr (0, [.ref tx, .ref q1, .ref q3, .int 0, .int 0, .int 3, .int 0, .int 0, .int 10, .int 0, .int 0, .int 0, .int 0, .int 1])), (q1, .inl (k2, 9, .inr (.inr (.inr (.inr g39))))), (q3, .inl (k4, 3, .inl f9)), (q11, .inr (4, [.int 0, .int 0, .int 0, .int 0])), (q18, .inr (4, [.int 0, .int 0, .int 0, .int 0])), (q26, .inr (4, [.int 0, .int 0, .int 0, .int 0])), (q35, .inr (4, [.int 0, .int 0, .int 0, .int 0])), (q45, .inr (4, [.int 0, .int 0, .int 0, .int 0]))] [(k2, .object RX4), (k4, .int)] H90 locs91 := Z92
  clear Z92
  refine zz_astN (WS' := fun g49 => [(b, .inr (0, [.ref tx, .ref q1, .ref q3, .int 0, .int 0, .int 3, .int 0, .int 0, .int 10, .int 0, .int 0, .int 0, .int 0, .int 1])), (q1, .inl (k2, 9, .inr (.inr (.inr (.inr g49))))), (q3, .inl (k4, 3, .inl f9)), (q11, .inr (4, [.int 0, .int 0, .int 0, .int 0])), (q18, .inr (4, [.int 0, .int 0, .int 0, .int 0])), (q26, .inr (4, [.int 0, .int 0, .int 0, .int 0])), (q35, .inr (4, [.int 0, .int 0, .int 0, .int 0])), (q45, .inr (4, [.int 0, .int 0, .int 0, .int 0]))]) X Z93 1 0 7 4 rfl rfl rfl rfl (zz_in 4 9 rfl) dX0_init_81 (fun _ => rfl) (fun g49 eg50 H94 locs95 Z96 => ?_)
  clear Z93
  have p51 : va_rf (g49 4) = .ref q45 := by rw [eg50]; rfl
  have p52 : va_rf (g49 3) = .ref q35 := by rw [eg50]; exact p41
  clear p41
  have p53 : va_rf (g49 2) = .ref q26 := by rw [eg50]; exact p42
  clear p42
  have p54 : va_rf (g49 1) = .ref q18 := by rw [eg50]; exact p43
  clear p43
  have p55 : va_rf (g49 0) = .ref q11 := by rw [eg50]; exact p44
  clear p44
  refine lv_iinc (v := 5) (lv' := [(2, .int 5), (0, .ref b), (1, .ref tx)]) hx hb dX0_init_82 hl86 (k := 0) rfl (by decide) (by decide) rfl (fun ls97 hl98 => ?_)
  clear hl86
  refine lv_goto (tgt := 63) hx hb dX0_init_85 (by decide) ?_
  refine lv_iload_n hx hb dX0_init_63 rfl (lv_at hl98 0 rfl) ?_
  refine lv_bipush (v := 9) hx hb dX0_init_64 (by decide) ?_
  refine lv_icmp_ge (tgt := 88) hx hb dX0_init_66 (by decide) (fun h => absurd h (by decide)) (fun _ => ?_)
  refine lv_aload_n hx hb dX0_init_69 rfl (lv_at hl98 1 rfl) ?_
  refine zz_get X Z96 0 rfl rfl (fun w h => List.mem_cons_of_mem _ (List.mem_append_left _ (List.mem_append_right _ h))) 1 rfl (zz_m 5 rfl) rfl dX0_init_70 ?_
  refine lv_iload_n hx hb dX0_init_73 rfl (lv_at hl98 0 rfl) ?_
  refine zz_new (ci := 4) (fs := [.int 0, .int 0, .int 0, .int 0]) (k := 8) (n := 36) X Z96 rfl (fun w h => List.mem_cons_of_mem _ (List.mem_append_right _ h)) tyX4 tyX4_ok (zz_m 4 rfl) (zz_m 14 rfl) (zz_m 15 rfl) zf_X4 rfl rfl rfl rfl dX0_init_74 (fun q56 H99 Z100 => ?_)
  clear Z96
  have Z101 : zz_S D V A s [(b, .inr (0, [.ref tx, .ref q1, .ref q3, .int 0, .int 0, .int 3, .int 0, .int 0, .int 10, .int 0, .int 0, .int 0, .int 0, .int 1])), (q1, .inl (k2, 9, .inr (.inr (.inr (.inr g49))))), (q3, .inl (k4, 3, .inl f9)), (q11, .inr (4, [.int 0, .int 0, .int 0, .int 0])), (q18, .inr (4, [.int 0, .int 0, .int 0, .int 0])), (q26, .inr (4, [.int 0, .int 0, .int 0, .int 0])), (q35, .inr (4, [.int 0, .int 0, .int 0, .int 0])), (q45, .inr (4, [.int 0, .int 0, .int 0, .int 0])), (q56, .inr (4, [.int 0, .int 0, .int 0, .int 0]))] [(k2, .object RX4), (k4, .int)] H99 _ := Z100
  clear Z100
  refine lv_dup hx hb dX0_init_77 rfl ?_
  refine zz_cv (WC := [(q56, .inr (4, [.int 0, .int 0, .int 0, .int 0]))]) (TC := []) (WR := [(b, .inr (0, [.ref tx, .ref q1, .ref q3, .int 0, .int 0, .int 3, .int 0, .int 0, .int 10, .int 0, .int 0, .int 0, .int 0, .int 1])), (q1, .inl (k2, 9, .inr (.inr (.inr (.inr g49))))), (q3, .inl (k4, 3, .inl f9)), (q11, .inr (4, [.int 0, .int 0, .int 0, .int 0])), (q18, .inr (4, [.int 0, .int 0, .int 0, .int 0])), (q26, .inr (4, [.int 0, .int 0, .int 0, .int 0])), (q35, .inr (4, [.int 0, .int 0, .int 0, .int 0])), (q45, .inr (4, [.int 0, .int 0, .int 0, .int 0]))]) (TR := [(k2, .object RX4), (k4, .int)]) (k := 8) (n := 36) Z101 [8] [0, 1, 2, 3, 4, 5, 6, 7] [] [0, 1] rfl rfl (by decide +kernel) (by decide +kernel) (by decide +kernel) rfl rfl (fun Zc => va_runIN (As := []) (rest := [.ref q56, .int 5, .ref q1]) X (c_Stall_init l D V q56 0 0 0 0 H99.size) ⟨va_cnB 0 hts gX0_init_X4_init_n39 rfl rfl rfl (zz_nw (q := (RX0, 39, yX4_init, RX6)) Z101.2.2.2.2.2 4 rfl) (hts _ (zz_m 15 rfl)) zh_X4_init ⟨Nat.le_of_ble_eq_true rfl, Nat.le_of_ble_eq_true rfl⟩, rfl, hts _ (zz_m 16 rfl)⟩ (zz_pS Zc) rfl rfl hl98.1 rfl (lv_room (Nat.le_of_ble_eq_true rfl)) dX0_init_78 ⟨Nat.le_of_ble_eq_true rfl, Nat.le_of_ble_eq_true rfl⟩) rfl rfl (fun u57 H102 locs103 hw58 Z104 => ?_)
  clear Z101
  have Z105 : zz_S D V A s [(b, .inr (0, [.ref tx, .ref q1, .ref q3, .int 0, .int 0, .int 3, .int 0, .int 0, .int 10, .int 0, .int 0, .int 0, .int 0, .int 1])), (q1, .inl (k2, 9, .inr (.inr (.inr (.inr g49))))), (q3, .inl (k4, 3, .inl f9)), (q11, .inr (4, [.int 0, .int 0, .int 0, .int 0])), (q18, .inr (4, [.int 0, .int 0, .int 0, .int 0])), (q26, .inr (4, [.int 0, .int 0, .int 0, .int 0])), (q35, .inr (4, [.int 0, .int 0, .int 0, .int 0])), (q45, .inr (4, [.int 0, .int 0, .int 0, .int 0])), (q56, .inr (4, [.int 0, .int 0, .int 0, .int 0]))] [(k2, .object RX4), (k4, .int)] H102 locs103 := Z104
  clear Z104
  refine zz_astN (WS' := fun g60 => [(b, .inr (0, [.ref tx, .ref q1, .ref q3, .int 0, .int 0, .int 3, .int 0, .int 0, .int 10, .int 0, .int 0, .int 0, .int 0, .int 1])), (q1, .inl (k2, 9, .inr (.inr (.inr (.inr g60))))), (q3, .inl (k4, 3, .inl f9)), (q11, .inr (4, [.int 0, .int 0, .int 0, .int 0])), (q18, .inr (4, [.int 0, .int 0, .int 0, .int 0])), (q26, .inr (4, [.int 0, .int 0, .int 0, .int 0])), (q35, .inr (4, [.int 0, .int 0, .int 0, .int 0])), (q45, .inr (4, [.int 0, .int 0, .int 0, .int 0])), (q56, .inr (4, [.int 0, .int 0, .int 0, .int 0]))]) X Z105 1 0 8 4 rfl rfl rfl rfl (zz_in 5 9 rfl) dX0_init_81 (fun _ => rfl) (fun g60 eg61 H106 locs107 Z108 => ?_)
  clear Z105
  have p62 : va_rf (g60 5) = .ref q56 := by rw [eg61]; rfl
  have p63 : va_rf (g60 4) = .ref q45 := by rw [eg61]; exact p51
  clear p51
  have p64 : va_rf (g60 3) = .ref q35 := by rw [eg61]; exact p52
  clear p52
  have p65 : va_rf (g60 2) = .ref q26 := by rw [eg61]; exact p53
  clear p53
  have p66 : va_rf (g60 1) = .ref q18 := by rw [eg61]; exact p54
  clear p54
  have p67 : va_rf (g60 0) = .ref q11 := by rw [eg61]; exact p55
  clear p55
  refine lv_iinc (v := 6) (lv' := [(2, .int 6), (0, .ref b), (1, .ref tx)]) hx hb dX0_init_82 hl98 (k := 0) rfl (by decide) (by decide) rfl (fun ls109 hl110 => ?_)
  clear hl98
  refine lv_goto (tgt := 63) hx hb dX0_init_85 (by decide) ?_
  refine lv_iload_n hx hb dX0_init_63 rfl (lv_at hl110 0 rfl) ?_
  refine lv_bipush (v := 9) hx hb dX0_init_64 (by decide) ?_
  refine lv_icmp_ge (tgt := 88) hx hb dX0_init_66 (by decide) (fun h => absurd h (by decide)) (fun _ => ?_)
  refine lv_aload_n hx hb dX0_init_69 rfl (lv_at hl110 1 rfl) ?_
  refine zz_get X Z108 0 rfl rfl (fun w h => List.mem_cons_of_mem _ (List.mem_append_left _ (List.mem_append_right _ h))) 1 rfl (zz_m 5 rfl) rfl dX0_init_70 ?_
  refine lv_iload_n hx hb dX0_init_73 rfl (lv_at hl110 0 rfl) ?_
  refine zz_new (ci := 4) (fs := [.int 0, .int 0, .int 0, .int 0]) (k := 9) (n := 40) X Z108 rfl (fun w h => List.mem_cons_of_mem _ (List.mem_append_right _ h)) tyX4 tyX4_ok (zz_m 4 rfl) (zz_m 14 rfl) (zz_m 15 rfl) zf_X4 rfl rfl rfl rfl dX0_init_74 (fun q68 H111 Z112 => ?_)
  clear Z108
  have Z113 : zz_S D V A s [(b, .inr (0, [.ref tx, .ref q1, .ref q3, .int 0, .int 0, .int 3, .int 0, .int 0, .int 10, .int 0, .int 0, .int 0, .int 0, .int 1])), (q1, .inl (k2, 9, .inr (.inr (.inr (.inr g60))))), (q3, .inl (k4, 3, .inl f9)), (q11, .inr (4, [.int 0, .int 0, .int 0, .int 0])), (q18, .inr (4, [.int 0, .int 0, .int 0, .int 0])), (q26, .inr (4, [.int 0, .int 0, .int 0, .int 0])), (q35, .inr (4, [.int 0, .int 0, .int 0, .int 0])), (q45, .inr (4, [.int 0, .int 0, .int 0, .int 0])), (q56, .inr (4, [.int 0, .int 0, .int 0, .int 0])), (q68, .inr (4, [.int 0, .int 0, .int 0, .int 0]))] [(k2, .object RX4), (k4, .int)] H111 _ := Z112
  clear Z112
  refine lv_dup hx hb dX0_init_77 rfl ?_
  refine zz_cv (WC := [(q68, .inr (4, [.int 0, .int 0, .int 0, .int 0]))]) (TC := []) (WR := [(b, .inr (0, [.ref tx, .ref q1, .ref q3, .int 0, .int 0, .int 3, .int 0, .int 0, .int 10, .int 0, .int 0, .int 0, .int 0, .int 1])), (q1, .inl (k2, 9, .inr (.inr (.inr (.inr g60))))), (q3, .inl (k4, 3, .inl f9)), (q11, .inr (4, [.int 0, .int 0, .int 0, .int 0])), (q18, .inr (4, [.int 0, .int 0, .int 0, .int 0])), (q26, .inr (4, [.int 0, .int 0, .int 0, .int 0])), (q35, .inr (4, [.int 0, .int 0, .int 0, .int 0])), (q45, .inr (4, [.int 0, .int 0, .int 0, .int 0])), (q56, .inr (4, [.int 0, .int 0, .int 0, .int 0]))]) (TR := [(k2, .object RX4), (k4, .int)]) (k := 9) (n := 40) Z113 [9] [0, 1, 2, 3, 4, 5, 6, 7, 8] [] [0, 1] rfl rfl (by decide +kernel) (by decide +kernel) (by decide +kernel) rfl rfl (fun Zc => va_runIN (As := []) (rest := [.ref q68, .int 6, .ref q1]) X (c_Stall_init l D V q68 0 0 0 0 H111.size) ⟨va_cnB 0 hts gX0_init_X4_init_n39 rfl rfl rfl (zz_nw (q := (RX0, 39, yX4_init, RX6)) Z113.2.2.2.2.2 4 rfl) (hts _ (zz_m 15 rfl)) zh_X4_init ⟨Nat.le_of_ble_eq_true rfl, Nat.le_of_ble_eq_true rfl⟩, rfl, hts _ (zz_m 16 rfl)⟩ (zz_pS Zc) rfl rfl hl110.1 rfl (lv_room (Nat.le_of_ble_eq_true rfl)) dX0_init_78 ⟨Nat.le_of_ble_eq_true rfl, Nat.le_of_ble_eq_true rfl⟩) rfl rfl (fun u69 H114 locs115 hw70 Z116 => ?_)
  clear Z113
  have Z117 : zz_S D V A s [(b, .inr (0, [.ref tx, .ref q1, .ref q3, .int 0, .int 0, .int 3, .int 0, .int 0, .int 10, .int 0, .int 0, .int 0, .int 0, .int 1])), (q1, .inl (k2, 9, .inr (.inr (.inr (.inr g60))))), (q3, .inl (k4, 3, .inl f9)), (q11, .inr (4, [.int 0, .int 0, .int 0, .int 0])), (q18, .inr (4, [.int 0, .int 0, .int 0, .int 0])), (q26, .inr (4, [.int 0, .int 0, .int 0, .int 0])), (q35, .inr (4, [.int 0, .int 0, .int 0, .int 0])), (q45, .inr (4, [.int 0, .int 0, .int 0, .int 0])), (q56, .inr (4, [.int 0, .int 0, .int 0, .int 0])), (q68, .inr (4, [.int 0, .int 0, .int 0, .int 0]))] [(k2, .object RX4), (k4, .int)] H114 locs115 := Z116
  clear Z116
  refine zz_astN (WS' := fun g72 => [(b, .inr (0, [.ref tx, .ref q1, .ref q3, .int 0, .int 0, .int 3, .int 0, .int 0, .int 10, .int 0, .int 0, .int 0, .int 0, .int 1])), (q1, .inl (k2, 9, .inr (.inr (.inr (.inr g72))))), (q3, .inl (k4, 3, .inl f9)), (q11, .inr (4, [.int 0, .int 0, .int 0, .int 0])), (q18, .inr (4, [.int 0, .int 0, .int 0, .int 0])), (q26, .inr (4, [.int 0, .int 0, .int 0, .int 0])), (q35, .inr (4, [.int 0, .int 0, .int 0, .int 0])), (q45, .inr (4, [.int 0, .int 0, .int 0, .int 0])), (q56, .inr (4, [.int 0, .int 0, .int 0, .int 0])), (q68, .inr (4, [.int 0, .int 0, .int 0, .int 0]))]) X Z117 1 0 9 4 rfl rfl rfl rfl (zz_in 6 9 rfl) dX0_init_81 (fun _ => rfl) (fun g72 eg73 H118 locs119 Z120 => ?_)
  clear Z117
  have p74 : va_rf (g72 6) = .ref q68 := by rw [eg73]; rfl
  have p75 : va_rf (g72 5) = .ref q56 := by rw [eg73]; exact p62
  clear p62
  have p76 : va_rf (g72 4) = .ref q45 := by rw [eg73]; exact p63
  clear p63
  have p77 : va_rf (g72 3) = .ref q35 := by rw [eg73]; exact p64
  clear p64
  have p78 : va_rf (g72 2) = .ref q26 := by rw [eg73]; exact p65
  clear p65
  have p79 : va_rf (g72 1) = .ref q18 := by rw [eg73]; exact p66
  clear p66
  have p80 : va_rf (g72 0) = .ref q11 := by rw [eg73]; exact p67
  clear p67
  refine lv_iinc (v := 7) (lv' := [(2, .int 7), (0, .ref b), (1, .ref tx)]) hx hb dX0_init_82 hl110 (k := 0) rfl (by decide) (by decide) rfl (fun ls121 hl122 => ?_)
  clear hl110
  refine lv_goto (tgt := 63) hx hb dX0_init_85 (by decide) ?_
  refine lv_iload_n hx hb dX0_init_63 rfl (lv_at hl122 0 rfl) ?_
  refine lv_bipush (v := 9) hx hb dX0_init_64 (by decide) ?_
  refine lv_icmp_ge (tgt := 88) hx hb dX0_init_66 (by decide) (fun h => absurd h (by decide)) (fun _ => ?_)
  refine lv_aload_n hx hb dX0_init_69 rfl (lv_at hl122 1 rfl) ?_
  refine zz_get X Z120 0 rfl rfl (fun w h => List.mem_cons_of_mem _ (List.mem_append_left _ (List.mem_append_right _ h))) 1 rfl (zz_m 5 rfl) rfl dX0_init_70 ?_
  refine lv_iload_n hx hb dX0_init_73 rfl (lv_at hl122 0 rfl) ?_
  refine zz_new (ci := 4) (fs := [.int 0, .int 0, .int 0, .int 0]) (k := 10) (n := 44) X Z120 rfl (fun w h => List.mem_cons_of_mem _ (List.mem_append_right _ h)) tyX4 tyX4_ok (zz_m 4 rfl) (zz_m 14 rfl) (zz_m 15 rfl) zf_X4 rfl rfl rfl rfl dX0_init_74 (fun q81 H123 Z124 => ?_)
  clear Z120
  have Z125 : zz_S D V A s [(b, .inr (0, [.ref tx, .ref q1, .ref q3, .int 0, .int 0, .int 3, .int 0, .int 0, .int 10, .int 0, .int 0, .int 0, .int 0, .int 1])), (q1, .inl (k2, 9, .inr (.inr (.inr (.inr g72))))), (q3, .inl (k4, 3, .inl f9)), (q11, .inr (4, [.int 0, .int 0, .int 0, .int 0])), (q18, .inr (4, [.int 0, .int 0, .int 0, .int 0])), (q26, .inr (4, [.int 0, .int 0, .int 0, .int 0])), (q35, .inr (4, [.int 0, .int 0, .int 0, .int 0])), (q45, .inr (4, [.int 0, .int 0, .int 0, .int 0])), (q56, .inr (4, [.int 0, .int 0, .int 0, .int 0])), (q68, .inr (4, [.int 0, .int 0, .int 0, .int 0])), (q81, .inr (4, [.int 0, .int 0, .int 0, .int 0]))] [(k2, .object RX4), (k4, .int)] H123 _ := Z124
  clear Z124
  refine lv_dup hx hb dX0_init_77 rfl ?_
  refine zz_cv (WC := [(q81, .inr (4, [.int 0, .int 0, .int 0, .int 0]))]) (TC := []) (WR := [(b, .inr (0, [.ref tx, .ref q1, .ref q3, .int 0, .int 0, .int 3, .int 0, .int 0, .int 10, .int 0, .int 0, .int 0, .int 0, .int 1])), (q1, .inl (k2, 9, .inr (.inr (.inr (.inr g72))))), (q3, .inl (k4, 3, .inl f9)), (q11, .inr (4, [.int 0, .int 0, .int 0, .int 0])), (q18, .inr (4, [.int 0, .int 0, .int 0, .int 0])), (q26, .inr (4, [.int 0, .int 0, .int 0, .int 0])), (q35, .inr (4, [.int 0, .int 0, .int 0, .int 0])), (q45, .inr (4, [.int 0, .int 0, .int 0, .int 0])), (q56, .inr (4, [.int 0, .int 0, .int 0, .int 0])), (q68, .inr (4, [.int 0, .int 0, .int 0, .int 0]))]) (TR := [(k2, .object RX4), (k4, .int)]) (k := 10) (n := 44) Z125 [10] [0, 1, 2, 3, 4, 5, 6, 7, 8, 9] [] [0, 1] rfl rfl (by decide +kernel) (by decide +kernel) (by decide +kernel) rfl rfl (fun Zc => va_runIN (As := []) (rest := [.ref q81, .int 7, .ref q1]) X (c_Stall_init l D V q81 0 0 0 0 H123.size) ⟨va_cnB 0 hts gX0_init_X4_init_n39 rfl rfl rfl (zz_nw (q := (RX0, 39, yX4_init, RX6)) Z125.2.2.2.2.2 4 rfl) (hts _ (zz_m 15 rfl)) zh_X4_init ⟨Nat.le_of_ble_eq_true rfl, Nat.le_of_ble_eq_true rfl⟩, rfl, hts _ (zz_m 16 rfl)⟩ (zz_pS Zc) rfl rfl hl122.1 rfl (lv_room (Nat.le_of_ble_eq_true rfl)) dX0_init_78 ⟨Nat.le_of_ble_eq_true rfl, Nat.le_of_ble_eq_true rfl⟩) rfl rfl (fun u82 H126 locs127 hw83 Z128 => ?_)
  clear Z125
  have Z129 : zz_S D V A s [(b, .inr (0, [.ref tx, .ref q1, .ref q3, .int 0, .int 0, .int 3, .int 0, .int 0, .int 10, .int 0, .int 0, .int 0, .int 0, .int 1])), (q1, .inl (k2, 9, .inr (.inr (.inr (.inr g72))))), (q3, .inl (k4, 3, .inl f9)), (q11, .inr (4, [.int 0, .int 0, .int 0, .int 0])), (q18, .inr (4, [.int 0, .int 0, .int 0, .int 0])), (q26, .inr (4, [.int 0, .int 0, .int 0, .int 0])), (q35, .inr (4, [.int 0, .int 0, .int 0, .int 0])), (q45, .inr (4, [.int 0, .int 0, .int 0, .int 0])), (q56, .inr (4, [.int 0, .int 0, .int 0, .int 0])), (q68, .inr (4, [.int 0, .int 0, .int 0, .int 0])), (q81, .inr (4, [.int 0, .int 0, .int 0, .int 0]))] [(k2, .object RX4), (k4, .int)] H126 locs127 := Z128
  clear Z128
  refine zz_astN (WS' := fun g85 => [(b, .inr (0, [.ref tx, .ref q1, .ref q3, .int 0, .int 0, .int 3, .int 0, .int 0, .int 10, .int 0, .int 0, .int 0, .int 0, .int 1])), (q1, .inl (k2, 9, .inr (.inr (.inr (.inr g85))))), (q3, .inl (k4, 3, .inl f9)), (q11, .inr (4, [.int 0, .int 0, .int 0, .int 0])), (q18, .inr (4, [.int 0, .int 0, .int 0, .int 0])), (q26, .inr (4, [.int 0, .int 0, .int 0, .int 0])), (q35, .inr (4, [.int 0, .int 0, .int 0, .int 0])), (q45, .inr (4, [.int 0, .int 0, .int 0, .int 0])), (q56, .inr (4, [.int 0, .int 0, .int 0, .int 0])), (q68, .inr (4, [.int 0, .int 0, .int 0, .int 0])), (q81, .inr (4, [.int 0, .int 0, .int 0, .int 0]))]) X Z129 1 0 10 4 rfl rfl rfl rfl (zz_in 7 9 rfl) dX0_init_81 (fun _ => rfl) (fun g85 eg86 H130 locs131 Z132 => ?_)
  clear Z129
  have p87 : va_rf (g85 7) = .ref q81 := by rw [eg86]; rfl
  have p88 : va_rf (g85 6) = .ref q68 := by rw [eg86]; exact p74
  clear p74
  have p89 : va_rf (g85 5) = .ref q56 := by rw [eg86]; exact p75
  clear p75
  have p90 : va_rf (g85 4) = .ref q45 := by rw [eg86]; exact p76
  clear p76
  have p91 : va_rf (g85 3) = .ref q35 := by rw [eg86]; exact p77
  clear p77
  have p92 : va_rf (g85 2) = .ref q26 := by rw [eg86]; exact p78
  clear p78
  have p93 : va_rf (g85 1) = .ref q18 := by rw [eg86]; exact p79
  clear p79
  have p94 : va_rf (g85 0) = .ref q11 := by rw [eg86]; exact p80
  clear p80
  refine lv_iinc (v := 8) (lv' := [(2, .int 8), (0, .ref b), (1, .ref tx)]) hx hb dX0_init_82 hl122 (k := 0) rfl (by decide) (by decide) rfl (fun ls133 hl134 => ?_)
  clear hl122
  refine lv_goto (tgt := 63) hx hb dX0_init_85 (by decide) ?_
  refine lv_iload_n hx hb dX0_init_63 rfl (lv_at hl134 0 rfl) ?_
  refine lv_bipush (v := 9) hx hb dX0_init_64 (by decide) ?_
  refine lv_icmp_ge (tgt := 88) hx hb dX0_init_66 (by decide) (fun h => absurd h (by decide)) (fun _ => ?_)
  refine lv_aload_n hx hb dX0_init_69 rfl (lv_at hl134 1 rfl) ?_
  refine zz_get X Z132 0 rfl rfl (fun w h => List.mem_cons_of_mem _ (List.mem_append_left _ (List.mem_append_right _ h))) 1 rfl (zz_m 5 rfl) rfl dX0_init_70 ?_
  refine lv_iload_n hx hb dX0_init_73 rfl (lv_at hl134 0 rfl) ?_
  refine zz_new (ci := 4) (fs := [.int 0, .int 0, .int 0, .int 0]) (k := 11) (n := 48) X Z132 rfl (fun w h => List.mem_cons_of_mem _ (List.mem_append_right _ h)) tyX4 tyX4_ok (zz_m 4 rfl) (zz_m 14 rfl) (zz_m 15 rfl) zf_X4 rfl rfl rfl rfl dX0_init_74 (fun q95 H135 Z136 => ?_)
  clear Z132
  have Z137 : zz_S D V A s [(b, .inr (0, [.ref tx, .ref q1, .ref q3, .int 0, .int 0, .int 3, .int 0, .int 0, .int 10, .int 0, .int 0, .int 0, .int 0, .int 1])), (q1, .inl (k2, 9, .inr (.inr (.inr (.inr g85))))), (q3, .inl (k4, 3, .inl f9)), (q11, .inr (4, [.int 0, .int 0, .int 0, .int 0])), (q18, .inr (4, [.int 0, .int 0, .int 0, .int 0])), (q26, .inr (4, [.int 0, .int 0, .int 0, .int 0])), (q35, .inr (4, [.int 0, .int 0, .int 0, .int 0])), (q45, .inr (4, [.int 0, .int 0, .int 0, .int 0])), (q56, .inr (4, [.int 0, .int 0, .int 0, .int 0])), (q68, .inr (4, [.int 0, .int 0, .int 0, .int 0])), (q81, .inr (4, [.int 0, .int 0, .int 0, .int 0])), (q95, .inr (4, [.int 0, .int 0, .int 0, .int 0]))] [(k2, .object RX4), (k4, .int)] H135 _ := Z136
  clear Z136
  refine lv_dup hx hb dX0_init_77 rfl ?_
  refine zz_cv (WC := [(q95, .inr (4, [.int 0, .int 0, .int 0, .int 0]))]) (TC := []) (WR := [(b, .inr (0, [.ref tx, .ref q1, .ref q3, .int 0, .int 0, .int 3, .int 0, .int 0, .int 10, .int 0, .int 0, .int 0, .int 0, .int 1])), (q1, .inl (k2, 9, .inr (.inr (.inr (.inr g85))))), (q3, .inl (k4, 3, .inl f9)), (q11, .inr (4, [.int 0, .int 0, .int 0, .int 0])), (q18, .inr (4, [.int 0, .int 0, .int 0, .int 0])), (q26, .inr (4, [.int 0, .int 0, .int 0, .int 0])), (q35, .inr (4, [.int 0, .int 0, .int 0, .int 0])), (q45, .inr (4, [.int 0, .int 0, .int 0, .int 0])), (q56, .inr (4, [.int 0, .int 0, .int 0, .int 0])), (q68, .inr (4, [.int 0, .int 0, .int 0, .int 0])), (q81, .inr (4, [.int 0, .int 0, .int 0, .int 0]))]) (TR := [(k2, .object RX4), (k4, .int)]) (k := 11) (n := 48) Z137 [11] [0, 1, 2, 3, 4, 5, 6, 7, 8, 9, 10] [] [0, 1] rfl rfl (by decide +kernel) (by decide +kernel) (by decide +kernel) rfl rfl (fun Zc => va_runIN (As := []) (rest := [.ref q95, .int 8, .ref q1]) X (c_Stall_init l D V q95 0 0 0 0 H135.size) ⟨va_cnB 0 hts gX0_init_X4_init_n39 rfl rfl rfl (zz_nw (q := (RX0, 39, yX4_init, RX6)) Z137.2.2.2.2.2 4 rfl) (hts _ (zz_m 15 rfl)) zh_X4_init ⟨Nat.le_of_ble_eq_true rfl, Nat.le_of_ble_eq_true rfl⟩, rfl, hts _ (zz_m 16 rfl)⟩ (zz_pS Zc) rfl rfl hl134.1 rfl (lv_room (Nat.le_of_ble_eq_true rfl)) dX0_init_78 ⟨Nat.le_of_ble_eq_true rfl, Nat.le_of_ble_eq_true rfl⟩) rfl rfl (fun u96 H138 locs139 hw97 Z140 => ?_)
  clear Z137
  have Z141 : zz_S D V A s [(b, .inr (0, [.ref tx, .ref q1, .ref q3, .int 0, .int 0, .int 3, .int 0, .int 0, .int 10, .int 0, .int 0, .int 0, .int 0, .int 1])), (q1, .inl (k2, 9, .inr (.inr (.inr (.inr g85))))), (q3, .inl (k4, 3, .inl f9)), (q11, .inr (4, [.int 0, .int 0, .int 0, .int 0])), (q18, .inr (4, [.int 0, .int 0, .int 0, .int 0])), (q26, .inr (4, [.int 0, .int 0, .int 0, .int 0])), (q35, .inr (4, [.int 0, .int 0, .int 0, .int 0])), (q45, .inr (4, [.int 0, .int 0, .int 0, .int 0])), (q56, .inr (4, [.int 0, .int 0, .int 0, .int 0])), (q68, .inr (4, [.int 0, .int 0, .int 0, .int 0])), (q81, .inr (4, [.int 0, .int 0, .int 0, .int 0])), (q95, .inr (4, [.int 0, .int 0, .int 0, .int 0]))] [(k2, .object RX4), (k4, .int)] H138 locs139 := Z140
  clear Z140
  refine zz_astN (WS' := fun g99 => [(b, .inr (0, [.ref tx, .ref q1, .ref q3, .int 0, .int 0, .int 3, .int 0, .int 0, .int 10, .int 0, .int 0, .int 0, .int 0, .int 1])), (q1, .inl (k2, 9, .inr (.inr (.inr (.inr g99))))), (q3, .inl (k4, 3, .inl f9)), (q11, .inr (4, [.int 0, .int 0, .int 0, .int 0])), (q18, .inr (4, [.int 0, .int 0, .int 0, .int 0])), (q26, .inr (4, [.int 0, .int 0, .int 0, .int 0])), (q35, .inr (4, [.int 0, .int 0, .int 0, .int 0])), (q45, .inr (4, [.int 0, .int 0, .int 0, .int 0])), (q56, .inr (4, [.int 0, .int 0, .int 0, .int 0])), (q68, .inr (4, [.int 0, .int 0, .int 0, .int 0])), (q81, .inr (4, [.int 0, .int 0, .int 0, .int 0])), (q95, .inr (4, [.int 0, .int 0, .int 0, .int 0]))]) X Z141 1 0 11 4 rfl rfl rfl rfl (zz_in 8 9 rfl) dX0_init_81 (fun _ => rfl) (fun g99 eg100 H142 locs143 Z144 => ?_)
  clear Z141
  have p101 : va_rf (g99 8) = .ref q95 := by rw [eg100]; rfl
  have p102 : va_rf (g99 7) = .ref q81 := by rw [eg100]; exact p87
  clear p87
  have p103 : va_rf (g99 6) = .ref q68 := by rw [eg100]; exact p88
  clear p88
  have p104 : va_rf (g99 5) = .ref q56 := by rw [eg100]; exact p89
  clear p89
  have p105 : va_rf (g99 4) = .ref q45 := by rw [eg100]; exact p90
  clear p90
  have p106 : va_rf (g99 3) = .ref q35 := by rw [eg100]; exact p91
  clear p91
  have p107 : va_rf (g99 2) = .ref q26 := by rw [eg100]; exact p92
  clear p92
  have p108 : va_rf (g99 1) = .ref q18 := by rw [eg100]; exact p93
  clear p93
  have p109 : va_rf (g99 0) = .ref q11 := by rw [eg100]; exact p94
  clear p94
  refine lv_iinc (v := 9) (lv' := [(2, .int 9), (0, .ref b), (1, .ref tx)]) hx hb dX0_init_82 hl134 (k := 0) rfl (by decide) (by decide) rfl (fun ls145 hl146 => ?_)
  clear hl134
  refine lv_goto (tgt := 63) hx hb dX0_init_85 (by decide) ?_
  refine lv_iload_n hx hb dX0_init_63 rfl (lv_at hl146 0 rfl) ?_
  refine lv_bipush (v := 9) hx hb dX0_init_64 (by decide) ?_
  refine lv_icmp_ge (tgt := 88) hx hb dX0_init_66 (by decide) (fun _ => ?_) (fun h => absurd (by decide) h)
  exact zz_vret X hr hlk Z144 (q1, k2, g99, q3, k4, f9, q11, q18, q26, q35, q45, q56, q68, q81, q95) ⟨⟨p109, p108, p107, p106, p105, p104, p103, p102, p101, (by rw [ef10]; exact (by rw [ef8]; exact (by rw [ef6]; rfl))), (by rw [ef10]; exact (by rw [ef8]; rfl)), (by rw [ef10]; rfl)⟩, trivial⟩ [0, 1, 2, 3, 4, 5, 6, 7, 8, 9, 10, 11] [0, 1] (by decide +kernel) rfl rfl dX0_init_88
