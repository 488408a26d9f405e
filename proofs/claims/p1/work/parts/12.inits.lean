set_option maxHeartbeats 4000000 in
set_option maxRecDepth 100000 in
theorem c_Stall_init (l : Launch) (D : va_G) (b : Nat) (k0 : Int32) (p0 : Int32) (g0 : Int32) (y0 : Int32)  : zz_MV l yX4_init wsX4_init 1 20 0 0 D [.ref b] [(b, .inr (4, [.int k0, .int p0, .int g0, .int y0]))] [] (fun (u : Unit) => True) (fun (u : Unit) => [(b, .inr (4, [.int k0, .int p0, .int g0, .int y0]))]) (fun (u : Unit) => []) := by
  intro sz
  refine Met.ofW (cc := cX4_init) (maxL := 1) (ret := none) (by decide) rfl ?_
  intro p e s m args below meth c s₁ B hml hv
  obtain ⟨rfl, hC⟩ := hv
  have hx := B.exec
  have hb := B.bytes
  have hr := B.returns
  have hts := atoms_spec (ws := wsX4_init) B.pre
  have hown : s.vm.findClass RX4 = some m.cls := findClass_of_methodNamed B.named
  have hlk := B.notSynchronized
  have hini : meth.name = "<init>" := (name_of_methodNamed B.named B.method).1
  have X : CallFix p m c cX4_init 1 s _ wsX4_init RX4 := ⟨hx, hb, hml, hown, hts⟩
  have Z := zz_enter hC
  generalize va_A [(b, .inr (4, [.int k0, .int p0, .int g0, .int y0]))] sz = A at Z ⊢
  have hl := lv_entry ([.ref b]) (n := 1) (Nat.le_of_ble_eq_true rfl)
  rw [lg_entry_eq]
  generalize (lg_sl ([.ref b]) ++ List.replicate (1 - (lg_sl ([.ref b])).length) Slot.unset).toArray = ls at hl ⊢
  have hl : lv_has ls 1 [(0, .ref b)] := hl
  refine lv_aload_n hx hb dX4_init_0 rfl (lv_at hl 0 rfl) ?_
  refine W.objInit hx hb hown (hts _ (zz_m 1 rfl)) (hts _ (zz_m 2 rfl)) (hts _ (zz_m 3 rfl)) rfl (by rw [hml]; exact hl.1) rfl dX4_init_1 (Nat.le_of_ble_eq_true rfl) (Nat.le_of_ble_eq_true rfl) ?_
  refine W.eq (g2 := F0 m 4 ls []) rfl ?_
  exact zz_vret X hr hlk Z () rfl [0] [] rfl rfl rfl dX4_init_4

set_option maxHeartbeats 4000000 in
set_option maxRecDepth 100000 in
theorem c_Text_init (l : Launch) (D : va_G) (b : Nat) (ky : Int32) (lv0 : Int32) (ln : Int32)  : zz_MV l yX5_init wsX5_init 1 20 2 192 D [.ref b] [(b, .inr (5, [.int ky, .int lv0, .int ln, .null, .null]))] [] (fun (u : Nat × ClassId × Nat × ClassId) => match u with | (s9, ks9, t9, kt9) => True) (fun (u : Nat × ClassId × Nat × ClassId) => match u with | (s9, ks9, t9, kt9) => [(b, .inr (5, [.int ky, .int lv0, .int ln, .ref s9, .ref t9]))]) (fun (u : Nat × ClassId × Nat × ClassId) => match u with | (s9, ks9, t9, kt9) => []) := by
  intro sz
  refine Met.ofW (cc := cX5_init) (maxL := 1) (ret := none) (by decide) rfl ?_
  intro p e s m args below meth c s₁ B hml hv
  obtain ⟨rfl, hC⟩ := hv
  have hx := B.exec
  have hb := B.bytes
  have hr := B.returns
  have hts := atoms_spec (ws := wsX5_init) B.pre
  have hown : s.vm.findClass RX5 = some m.cls := findClass_of_methodNamed B.named
  have hlk := B.notSynchronized
  have hini : meth.name = "<init>" := (name_of_methodNamed B.named B.method).1
  have X : CallFix p m c cX5_init 1 s _ wsX5_init RX5 := ⟨hx, hb, hml, hown, hts⟩
  have Z := zz_enter hC
  generalize va_A [(b, .inr (5, [.int ky, .int lv0, .int ln, .null, .null]))] sz = A at Z ⊢
  have hl := lv_entry ([.ref b]) (n := 1) (Nat.le_of_ble_eq_true rfl)
  rw [lg_entry_eq]
  generalize (lg_sl ([.ref b]) ++ List.replicate (1 - (lg_sl ([.ref b])).length) Slot.unset).toArray = ls at hl ⊢
  have hl : lv_has ls 1 [(0, .ref b)] := hl
  refine lv_aload_n hx hb dX5_init_0 rfl (lv_at hl 0 rfl) ?_
  refine W.objInit hx hb hown (hts _ (zz_m 1 rfl)) (hts _ (zz_m 2 rfl)) (hts _ (zz_m 3 rfl)) rfl (by rw [hml]; exact hl.1) rfl dX5_init_1 (Nat.le_of_ble_eq_true rfl) (Nat.le_of_ble_eq_true rfl) ?_
  refine W.eq (g2 := F0 m 4 ls []) rfl ?_
  refine lv_aload_n hx hb dX5_init_4 rfl (lv_at hl 0 rfl) ?_
  refine lv_bipush (v := 96) hx hb dX5_init_5 (by decide) ?_
  refine zz_newi (k := 1) (n := 96) (N' := 96) X Z (zz_m 4 rfl) (by decide) (by decide) rfl rfl rfl rfl rfl dX5_init_7 (fun q1 k2 H Z => ?_)
  have Z : zz_S D A s [(b, .inr (5, [.int ky, .int lv0, .int ln, .null, .null])), (q1, .inl (k2, 96, .inl (fun _ => 0)))] [(k2, .int)] H _ := Z
  refine zz_putF (WS' := [(b, .inr (5, [.int ky, .int lv0, .int ln, .ref q1, .null])), (q1, .inl (k2, 96, .inl (fun _ => 0)))]) X Z 0 rfl rfl (fun w h => List.mem_cons_of_mem _ (List.mem_append_right _ h)) tyX5 tyX5_ok nmX5 3 rfl (zz_m 5 rfl) rfl hini rfl rfl rfl rfl dX5_init_9 rfl (fun H locs Z => ?_)
  refine lv_aload_n hx hb dX5_init_12 rfl (lv_at hl 0 rfl) ?_
  refine lv_bipush (v := 96) hx hb dX5_init_13 (by decide) ?_
  refine zz_newi (k := 2) (n := 192) (N' := 96) X Z (zz_m 4 rfl) (by decide) (by decide) rfl rfl rfl rfl rfl dX5_init_15 (fun q3 k4 H Z => ?_)
  have Z : zz_S D A s [(b, .inr (5, [.int ky, .int lv0, .int ln, .ref q1, .null])), (q1, .inl (k2, 96, .inl (fun _ => 0))), (q3, .inl (k4, 96, .inl (fun _ => 0)))] [(k2, .int), (k4, .int)] H _ := Z
  refine zz_putF (WS' := [(b, .inr (5, [.int ky, .int lv0, .int ln, .ref q1, .ref q3])), (q1, .inl (k2, 96, .inl (fun _ => 0))), (q3, .inl (k4, 96, .inl (fun _ => 0)))]) X Z 0 rfl rfl (fun w h => List.mem_cons_of_mem _ (List.mem_append_right _ h)) tyX5 tyX5_ok nmX5 4 rfl (zz_m 6 rfl) rfl hini rfl rfl rfl rfl dX5_init_17 rfl (fun H locs Z => ?_)
  exact zz_vret X hr hlk Z (q1, k2, q3, k4) trivial [0] [] rfl rfl rfl dX5_init_20

set_option maxHeartbeats 4000000 in
set_option maxRecDepth 100000 in
theorem c_Sheet_init (l : Launch) (D : va_G) (b : Nat) (so : Int32) (le : Int32)  : zz_MV l yX2_init wsX2_init 1 20 1 24 D [.ref b] [(b, .inr (2, [.int so, .int le, .null]))] [] (fun (u : Nat × ClassId) => match u with | (v9, kv9) => True) (fun (u : Nat × ClassId) => match u with | (v9, kv9) => [(b, .inr (2, [.int (-1), .int le, .ref v9])), (v9, .inl (kv9, 24, .inl (fun _ => 0)))]) (fun (u : Nat × ClassId) => match u with | (v9, kv9) => [(kv9, .int)]) := by
  intro sz
  refine Met.ofW (cc := cX2_init) (maxL := 1) (ret := none) (by decide) rfl ?_
  intro p e s m args below meth c s₁ B hml hv
  obtain ⟨rfl, hC⟩ := hv
  have hx := B.exec
  have hb := B.bytes
  have hr := B.returns
  have hts := atoms_spec (ws := wsX2_init) B.pre
  have hown : s.vm.findClass RX2 = some m.cls := findClass_of_methodNamed B.named
  have hlk := B.notSynchronized
  have hini : meth.name = "<init>" := (name_of_methodNamed B.named B.method).1
  have X : CallFix p m c cX2_init 1 s _ wsX2_init RX2 := ⟨hx, hb, hml, hown, hts⟩
  have Z := zz_enter hC
  generalize va_A [(b, .inr (2, [.int so, .int le, .null]))] sz = A at Z ⊢
  have hl := lv_entry ([.ref b]) (n := 1) (Nat.le_of_ble_eq_true rfl)
  rw [lg_entry_eq]
  generalize (lg_sl ([.ref b]) ++ List.replicate (1 - (lg_sl ([.ref b])).length) Slot.unset).toArray = ls at hl ⊢
  have hl : lv_has ls 1 [(0, .ref b)] := hl
  refine lv_aload_n hx hb dX2_init_0 rfl (lv_at hl 0 rfl) ?_
  refine W.objInit hx hb hown (hts _ (zz_m 1 rfl)) (hts _ (zz_m 2 rfl)) (hts _ (zz_m 3 rfl)) rfl (by rw [hml]; exact hl.1) rfl dX2_init_1 (Nat.le_of_ble_eq_true rfl) (Nat.le_of_ble_eq_true rfl) ?_
  refine W.eq (g2 := F0 m 4 ls []) rfl ?_
  refine lv_aload_n hx hb dX2_init_4 rfl (lv_at hl 0 rfl) ?_
  refine lv_iconst (v := (-1)) hx hb dX2_init_5 (by decide) ?_
  refine zz_put (WS' := [(b, .inr (2, [.int (-1), .int le, .null]))]) X Z 0 rfl rfl (fun w h => List.mem_cons_of_mem _ (List.mem_append_right _ h)) tyX2 tyX2_ok nmX2 0 rfl (zz_m 4 rfl) rfl rfl rfl rfl dX2_init_6 rfl (fun H locs Z => ?_)
  refine lv_aload_n hx hb dX2_init_9 rfl (lv_at hl 0 rfl) ?_
  refine lv_bipush (v := 24) hx hb dX2_init_10 (by decide) ?_
  refine zz_newi (k := 1) (n := 24) (N' := 24) X Z (zz_m 5 rfl) (by decide) (by decide) rfl rfl rfl rfl rfl dX2_init_12 (fun q1 k2 H Z => ?_)
  have Z : zz_S D A s [(b, .inr (2, [.int (-1), .int le, .null])), (q1, .inl (k2, 24, .inl (fun _ => 0)))] [(k2, .int)] H _ := Z
  refine zz_putF (WS' := [(b, .inr (2, [.int (-1), .int le, .ref q1])), (q1, .inl (k2, 24, .inl (fun _ => 0)))]) X Z 0 rfl rfl (fun w h => List.mem_cons_of_mem _ (List.mem_append_right _ h)) tyX2 tyX2_ok nmX2 2 rfl (zz_m 6 rfl) rfl hini rfl rfl rfl rfl dX2_init_14 rfl (fun H locs Z => ?_)
  exact zz_vret X hr hlk Z (q1, k2) trivial [0, 1] [0] rfl rfl rfl dX2_init_17

set_option maxHeartbeats 4000000 in
set_option maxRecDepth 100000 in
theorem c_Slot_init (l : Launch) (D : va_G) (b : Nat) (th : Int32) (nu : Int32)  : zz_MV l yX3_init wsX3_init 2 40 3 31 D [.ref b] [(b, .inr (3, [.int th, .int nu, .null, .null]))] [] (fun (u : Nat × Nat) => match u with | (t9, h9) => True) (fun (u : Nat × Nat) => match u with | (t9, h9) => [(b, .inr (3, [.int 0, .int nu, .ref t9, .ref h9]))]) (fun (u : Nat × Nat) => match u with | (t9, h9) => []) := by
  intro sz
  refine Met.ofW (cc := cX3_init) (maxL := 1) (ret := none) (by decide) rfl ?_
  intro p e s m args below meth c s₁ B hml hv
  obtain ⟨rfl, hC⟩ := hv
  have hx := B.exec
  have hb := B.bytes
  have hr := B.returns
  have hts := atoms_spec (ws := wsX3_init) B.pre
  have hown : s.vm.findClass RX3 = some m.cls := findClass_of_methodNamed B.named
  have hlk := B.notSynchronized
  have hini : meth.name = "<init>" := (name_of_methodNamed B.named B.method).1
  have X : CallFix p m c cX3_init 1 s _ wsX3_init RX3 := ⟨hx, hb, hml, hown, hts⟩
  have Z := zz_enter hC
  generalize va_A [(b, .inr (3, [.int th, .int nu, .null, .null]))] sz = A at Z ⊢
  have hl := lv_entry ([.ref b]) (n := 1) (Nat.le_of_ble_eq_true rfl)
  rw [lg_entry_eq]
  generalize (lg_sl ([.ref b]) ++ List.replicate (1 - (lg_sl ([.ref b])).length) Slot.unset).toArray = ls at hl ⊢
  have hl : lv_has ls 1 [(0, .ref b)] := hl
  refine lv_aload_n hx hb dX3_init_0 rfl (lv_at hl 0 rfl) ?_
  refine W.objInit hx hb hown (hts _ (zz_m 1 rfl)) (hts _ (zz_m 2 rfl)) (hts _ (zz_m 3 rfl)) rfl (by rw [hml]; exact hl.1) rfl dX3_init_1 (Nat.le_of_ble_eq_true rfl) (Nat.le_of_ble_eq_true rfl) ?_
  refine W.eq (g2 := F0 m 4 ls []) rfl ?_
  refine lv_aload_n hx hb dX3_init_4 rfl (lv_at hl 0 rfl) ?_
  refine lv_iconst (v := 0) hx hb dX3_init_5 (by decide) ?_
  refine zz_put (WS' := [(b, .inr (3, [.int 0, .int nu, .null, .null]))]) X Z 0 rfl rfl (fun w h => List.mem_cons_of_mem _ (List.mem_append_left _ (List.mem_append_left _ (List.mem_append_right _ h)))) tyX3 tyX3_ok nmX3 0 rfl (zz_m 4 rfl) rfl rfl rfl rfl dX3_init_6 rfl (fun H locs Z => ?_)
  refine lv_aload_n hx hb dX3_init_9 rfl (lv_at hl 0 rfl) ?_
  refine zz_new (ci := 4) (fs := [.int 0, .int 0, .int 0, .int 0]) (k := 1) (n := 4) X Z rfl (fun w h => List.mem_cons_of_mem _ (List.mem_append_left _ (List.mem_append_right _ h))) tyX4 tyX4_ok (zz_m 5 rfl) (zz_m 6 rfl) (zz_m 7 rfl) (fun j hj => by rcases (show j = 0 ∨ j = 1 ∨ j = 2 ∨ j = 3 by omega) with rfl | rfl | rfl | rfl <;> rfl) rfl rfl rfl rfl dX3_init_10 (fun q1 H Z => ?_)
  have Z : zz_S D A s [(b, .inr (3, [.int 0, .int nu, .null, .null])), (q1, .inr (4, [.int 0, .int 0, .int 0, .int 0]))] [] H _ := Z
  refine lv_dup hx hb dX3_init_13 rfl ?_
  refine zz_cv (WC := [(q1, .inr (4, [.int 0, .int 0, .int 0, .int 0]))]) (TC := []) (WR := [(b, .inr (3, [.int 0, .int nu, .null, .null]))]) (TR := []) (k := 1) (n := 4) Z [1] [0] [] [] rfl rfl rfl rfl rfl rfl rfl (fun Zc => va_runIN (As := []) (rest := [.ref q1, .ref b]) X (c_Stall_init l D q1 0 0 0 0 H.size) ⟨va_cnB 0 hts gX3_init_X4_init_n17 rfl rfl rfl (zz_nw Z.2.2.2.2.2 11 rfl) (hts _ (zz_m 7 rfl)) zh_X4_init ⟨Nat.le_of_ble_eq_true rfl, Nat.le_of_ble_eq_true rfl⟩, rfl, hts _ (zz_m 13 rfl)⟩ (zz_pS Zc) rfl rfl hl.1 rfl (lv_room (Nat.le_of_ble_eq_true rfl)) dX3_init_14 ⟨Nat.le_of_ble_eq_true rfl, Nat.le_of_ble_eq_true rfl⟩) rfl rfl (fun u2 H locs hw3 Z => ?_)
  have Z : zz_S D A s [(b, .inr (3, [.int 0, .int nu, .null, .null])), (q1, .inr (4, [.int 0, .int 0, .int 0, .int 0]))] [] H locs := Z
  refine zz_putF (WS' := [(b, .inr (3, [.int 0, .int nu, .ref q1, .null])), (q1, .inr (4, [.int 0, .int 0, .int 0, .int 0]))]) X Z 0 rfl rfl (fun w h => List.mem_cons_of_mem _ (List.mem_append_left _ (List.mem_append_left _ (List.mem_append_right _ h)))) tyX3 tyX3_ok nmX3 2 rfl (zz_m 8 rfl) rfl hini rfl rfl rfl rfl dX3_init_17 rfl (fun H locs Z => ?_)
  refine lv_aload_n hx hb dX3_init_20 rfl (lv_at hl 0 rfl) ?_
  refine zz_new (ci := 2) (fs := [.int 0, .int 0, .null]) (k := 2) (n := 7) X Z rfl (fun w h => List.mem_cons_of_mem _ (List.mem_append_right _ h)) tyX2 tyX2_ok (zz_m 9 rfl) (zz_m 10 rfl) (zz_m 11 rfl) (fun j hj => by rcases (show j = 0 ∨ j = 1 ∨ j = 2 by omega) with rfl | rfl | rfl <;> rfl) rfl rfl rfl rfl dX3_init_21 (fun q5 H Z => ?_)
  have Z : zz_S D A s [(b, .inr (3, [.int 0, .int nu, .ref q1, .null])), (q1, .inr (4, [.int 0, .int 0, .int 0, .int 0])), (q5, .inr (2, [.int 0, .int 0, .null]))] [] H _ := Z
  refine lv_dup hx hb dX3_init_24 rfl ?_
  refine zz_cv (WC := [(q5, .inr (2, [.int 0, .int 0, .null]))]) (TC := []) (WR := [(b, .inr (3, [.int 0, .int nu, .ref q1, .null])), (q1, .inr (4, [.int 0, .int 0, .int 0, .int 0]))]) (TR := []) (k := 3) (n := 31) Z [2] [0, 1] [] [] rfl rfl rfl rfl rfl rfl rfl (fun Zc => va_runIN (As := []) (rest := [.ref q5, .ref b]) X (c_Sheet_init l D q5 0 0 H.size) ⟨va_cnB 0 hts gX3_init_X2_init_n24 rfl rfl rfl (zz_nw Z.2.2.2.2.2 12 rfl) (hts _ (zz_m 11 rfl)) zh_X2_init ⟨Nat.le_of_ble_eq_true rfl, Nat.le_of_ble_eq_true rfl⟩, rfl, hts _ (zz_m 16 rfl)⟩ (zz_pS Zc) rfl rfl hl.1 rfl (lv_room (Nat.le_of_ble_eq_true rfl)) dX3_init_25 ⟨Nat.le_of_ble_eq_true rfl, Nat.le_of_ble_eq_true rfl⟩) rfl rfl (fun u6 H locs hw7 Z => ?_)
  obtain ⟨v99, kv910⟩ := u6
  dsimp only at hw7 Z
  have Z : zz_S D A s [(b, .inr (3, [.int 0, .int nu, .ref q1, .null])), (q1, .inr (4, [.int 0, .int 0, .int 0, .int 0])), (q5, .inr (2, [.int (-1), .int 0, .ref v99])), (v99, .inl (kv910, 24, .inl (fun _ => 0)))] [(kv910, .int)] H locs := Z
  refine zz_putF (WS' := [(b, .inr (3, [.int 0, .int nu, .ref q1, .ref q5])), (q1, .inr (4, [.int 0, .int 0, .int 0, .int 0])), (q5, .inr (2, [.int (-1), .int 0, .ref v99])), (v99, .inl (kv910, 24, .inl (fun _ => 0)))]) X Z 0 rfl rfl (fun w h => List.mem_cons_of_mem _ (List.mem_append_left _ (List.mem_append_left _ (List.mem_append_right _ h)))) tyX3 tyX3_ok nmX3 3 rfl (zz_m 12 rfl) rfl hini rfl rfl rfl rfl dX3_init_28 rfl (fun H locs Z => ?_)
  exact zz_vret X hr hlk Z (q1, q5) trivial [0] [] rfl rfl rfl dX3_init_31

set_option maxHeartbeats 4000000 in
set_option maxRecDepth 100000 in
theorem c_Reader_init (l : Launch) (D : va_G) (b : Nat) (ta : Nat) (r2 : Int32) (r3 : Int32) (r4 : Int32) (r5 : Int32) (r6 : Int32) (r7 : Int32)  : zz_MV l yX1_init wsX1_init 2 40 3 197 D [.ref b, .ref ta] [(b, .inr (1, [.null, .null, .int r2, .int r3, .int r4, .int r5, .int r6, .int r7]))] [] (fun (d9 : Nat) => True) (fun (d9 : Nat) => [(b, .inr (1, [.ref ta, .ref d9, .int r2, .int r3, .int r4, .int r5, .int r6, .int r7]))]) (fun (d9 : Nat) => []) := by
  intro sz
  refine Met.ofW (cc := cX1_init) (maxL := 2) (ret := none) (by decide) rfl ?_
  intro p e s m args below meth c s₁ B hml hv
  obtain ⟨rfl, hC⟩ := hv
  have hx := B.exec
  have hb := B.bytes
  have hr := B.returns
  have hts := atoms_spec (ws := wsX1_init) B.pre
  have hown : s.vm.findClass RX1 = some m.cls := findClass_of_methodNamed B.named
  have hlk := B.notSynchronized
  have hini : meth.name = "<init>" := (name_of_methodNamed B.named B.method).1
  have X : CallFix p m c cX1_init 2 s _ wsX1_init RX1 := ⟨hx, hb, hml, hown, hts⟩
  have Z := zz_enter hC
  generalize va_A [(b, .inr (1, [.null, .null, .int r2, .int r3, .int r4, .int r5, .int r6, .int r7]))] sz = A at Z ⊢
  have hl := lv_entry ([.ref b, .ref ta]) (n := 2) (Nat.le_of_ble_eq_true rfl)
  rw [lg_entry_eq]
  generalize (lg_sl ([.ref b, .ref ta]) ++ List.replicate (2 - (lg_sl ([.ref b, .ref ta])).length) Slot.unset).toArray = ls at hl ⊢
  have hl : lv_has ls 2 [(0, .ref b), (1, .ref ta)] := hl
  refine lv_aload_n hx hb dX1_init_0 rfl (lv_at hl 0 rfl) ?_
  refine W.objInit hx hb hown (hts _ (zz_m 1 rfl)) (hts _ (zz_m 2 rfl)) (hts _ (zz_m 3 rfl)) rfl (by rw [hml]; exact hl.1) rfl dX1_init_1 (Nat.le_of_ble_eq_true rfl) (Nat.le_of_ble_eq_true rfl) ?_
  refine W.eq (g2 := F0 m 4 ls []) rfl ?_
  refine lv_aload_n hx hb dX1_init_4 rfl (lv_at hl 0 rfl) ?_
  refine zz_new (ci := 5) (fs := [.int 0, .int 0, .int 0, .null, .null]) (k := 1) (n := 5) X Z rfl (fun w h => List.mem_cons_of_mem _ (List.mem_append_left _ (List.mem_append_right _ h))) tyX5 tyX5_ok (zz_m 4 rfl) (zz_m 5 rfl) (zz_m 6 rfl) (fun j hj => by rcases (show j = 0 ∨ j = 1 ∨ j = 2 ∨ j = 3 ∨ j = 4 by omega) with rfl | rfl | rfl | rfl | rfl <;> rfl) rfl rfl rfl rfl dX1_init_5 (fun q1 H Z => ?_)
  have Z : zz_S D A s [(b, .inr (1, [.null, .null, .int r2, .int r3, .int r4, .int r5, .int r6, .int r7])), (q1, .inr (5, [.int 0, .int 0, .int 0, .null, .null]))] [] H _ := Z
  refine lv_dup hx hb dX1_init_8 rfl ?_
  refine zz_cv (WC := [(q1, .inr (5, [.int 0, .int 0, .int 0, .null, .null]))]) (TC := []) (WR := [(b, .inr (1, [.null, .null, .int r2, .int r3, .int r4, .int r5, .int r6, .int r7]))]) (TR := []) (k := 3) (n := 197) Z [1] [0] [] [] rfl rfl rfl rfl rfl rfl rfl (fun Zc => va_runIN (As := []) (rest := [.ref q1, .ref b]) X (c_Text_init l D q1 0 0 0 H.size) ⟨va_cnB 0 hts gX1_init_X5_init_n11 rfl rfl rfl (zz_nw Z.2.2.2.2.2 6 rfl) (hts _ (zz_m 6 rfl)) zh_X5_init ⟨Nat.le_of_ble_eq_true rfl, Nat.le_of_ble_eq_true rfl⟩, rfl, hts _ (zz_m 9 rfl)⟩ (zz_pS Zc) rfl rfl hl.1 rfl (lv_room (Nat.le_of_ble_eq_true rfl)) dX1_init_9 ⟨Nat.le_of_ble_eq_true rfl, Nat.le_of_ble_eq_true rfl⟩) rfl rfl (fun u2 H locs hw3 Z => ?_)
  obtain ⟨s95, ks96, t97, kt98⟩ := u2
  dsimp only at hw3 Z
  have Z : zz_S D A s [(b, .inr (1, [.null, .null, .int r2, .int r3, .int r4, .int r5, .int r6, .int r7])), (q1, .inr (5, [.int 0, .int 0, .int 0, .ref s95, .ref t97]))] [] H locs := Z
  refine zz_putF (WS' := [(b, .inr (1, [.null, .ref q1, .int r2, .int r3, .int r4, .int r5, .int r6, .int r7])), (q1, .inr (5, [.int 0, .int 0, .int 0, .ref s95, .ref t97]))]) X Z 0 rfl rfl (fun w h => List.mem_cons_of_mem _ (List.mem_append_right _ h)) tyX1 tyX1_ok nmX1 1 rfl (zz_m 7 rfl) rfl hini rfl rfl rfl rfl dX1_init_12 rfl (fun H locs Z => ?_)
  refine lv_aload_n hx hb dX1_init_15 rfl (lv_at hl 0 rfl) ?_
  refine lv_aload_n hx hb dX1_init_16 rfl (lv_at hl 1 rfl) ?_
  refine zz_putF (WS' := [(b, .inr (1, [.ref ta, .ref q1, .int r2, .int r3, .int r4, .int r5, .int r6, .int r7])), (q1, .inr (5, [.int 0, .int 0, .int 0, .ref s95, .ref t97]))]) X Z 0 rfl rfl (fun w h => List.mem_cons_of_mem _ (List.mem_append_right _ h)) tyX1 tyX1_ok nmX1 0 rfl (zz_m 8 rfl) rfl hini rfl rfl rfl rfl dX1_init_17 rfl (fun H locs Z => ?_)
  exact zz_vret X hr hlk Z (q1) trivial [0] [] rfl rfl rfl dX1_init_20

set_option maxHeartbeats 4000000 in
set_option maxRecDepth 100000 in
theorem c_Bazaar_init (l : Launch) (D : va_G) (b : Nat) (tx : Nat)  : zz_MV l yX0_init wsX0_init 2 40 11 48 D [.ref b, .ref tx] [(b, .inr (0, [.null, .null, .null, .int 0, .int 0, .int 0, .int 0, .int 0, .int 0, .int 0, .int 0, .int 0, .int 0, .int 0]))] [] (fun (u : Nat × ClassId × Nat → Option Nat × Nat × ClassId × Nat → Int32 × Nat × Nat × Nat × Nat × Nat × Nat × Nat × Nat × Nat) => match u with | (st9, ks9, sf9, ct9, kc9, cf9, q0_9, q1_9, q2_9, q3_9, q4_9, q5_9, q6_9, q7_9, q8_9) => (va_rf (sf9 0) = .ref q0_9 ∧ va_rf (sf9 1) = .ref q1_9 ∧ va_rf (sf9 2) = .ref q2_9 ∧ va_rf (sf9 3) = .ref q3_9 ∧ va_rf (sf9 4) = .ref q4_9 ∧ va_rf (sf9 5) = .ref q5_9 ∧ va_rf (sf9 6) = .ref q6_9 ∧ va_rf (sf9 7) = .ref q7_9 ∧ va_rf (sf9 8) = .ref q8_9 ∧ cf9 0 = (-1000000005) ∧ cf9 1 = (-1000000005) ∧ cf9 2 = (-1000000005)) ∧ (True)) (fun (u : Nat × ClassId × Nat → Option Nat × Nat × ClassId × Nat → Int32 × Nat × Nat × Nat × Nat × Nat × Nat × Nat × Nat × Nat) => match u with | (st9, ks9, sf9, ct9, kc9, cf9, q0_9, q1_9, q2_9, q3_9, q4_9, q5_9, q6_9, q7_9, q8_9) => [(b, .inr (0, [.ref tx, .ref st9, .ref ct9, .int 0, .int 0, .int 3, .int 0, .int 0, .int 10, .int 0, .int 0, .int 0, .int 0, .int 1])), (st9, .inl (ks9, 9, .inr (.inr (.inr (.inr sf9))))), (ct9, .inl (kc9, 3, .inl cf9)), (q0_9, .inr (4, [.int 0, .int 0, .int 0, .int 0])), (q1_9, .inr (4, [.int 0, .int 0, .int 0, .int 0])), (q2_9, .inr (4, [.int 0, .int 0, .int 0, .int 0])), (q3_9, .inr (4, [.int 0, .int 0, .int 0, .int 0])), (q4_9, .inr (4, [.int 0, .int 0, .int 0, .int 0])), (q5_9, .inr (4, [.int 0, .int 0, .int 0, .int 0])), (q6_9, .inr (4, [.int 0, .int 0, .int 0, .int 0])), (q7_9, .inr (4, [.int 0, .int 0, .int 0, .int 0])), (q8_9, .inr (4, [.int 0, .int 0, .int 0, .int 0]))]) (fun (u : Nat × ClassId × Nat → Option Nat × Nat × ClassId × Nat → Int32 × Nat × Nat × Nat × Nat × Nat × Nat × Nat × Nat × Nat) => match u with | (st9, ks9, sf9, ct9, kc9, cf9, q0_9, q1_9, q2_9, q3_9, q4_9, q5_9, q6_9, q7_9, q8_9) => [(ks9, .object RX4), (kc9, .int)]) := by
  intro sz
  refine Met.ofW (cc := cX0_init) (maxL := 3) (ret := none) (by decide) rfl ?_
  intro p e s m args below meth c s₁ B hml hv
  obtain ⟨rfl, hC⟩ := hv
  have hx := B.exec
  have hb := B.bytes
  have hr := B.returns
  have hts := atoms_spec (ws := wsX0_init) B.pre
  have hown : s.vm.findClass RX0 = some m.cls := findClass_of_methodNamed B.named
  have hlk := B.notSynchronized
  have hini : meth.name = "<init>" := (name_of_methodNamed B.named B.method).1
  have X : CallFix p m c cX0_init 3 s _ wsX0_init RX0 := ⟨hx, hb, hml, hown, hts⟩
  have Z := zz_enter hC
  generalize va_A [(b, .inr (0, [.null, .null, .null, .int 0, .int 0, .int 0, .int 0, .int 0, .int 0, .int 0, .int 0, .int 0, .int 0, .int 0]))] sz = A at Z ⊢
  have hl := lv_entry ([.ref b, .ref tx]) (n := 3) (Nat.le_of_ble_eq_true rfl)
  rw [lg_entry_eq]
  generalize (lg_sl ([.ref b, .ref tx]) ++ List.replicate (3 - (lg_sl ([.ref b, .ref tx])).length) Slot.unset).toArray = ls at hl ⊢
  have hl : lv_has ls 3 [(0, .ref b), (1, .ref tx)] := hl
  refine lv_aload_n hx hb dX0_init_0 rfl (lv_at hl 0 rfl) ?_
  refine W.objInit hx hb hown (hts _ (zz_m 1 rfl)) (hts _ (zz_m 2 rfl)) (hts _ (zz_m 3 rfl)) rfl (by rw [hml]; exact hl.1) rfl dX0_init_1 (Nat.le_of_ble_eq_true rfl) (Nat.le_of_ble_eq_true rfl) ?_
  refine W.eq (g2 := F0 m 4 ls []) rfl ?_
  refine lv_aload_n hx hb dX0_init_4 rfl (lv_at hl 0 rfl) ?_
  refine lv_bipush (v := 9) hx hb dX0_init_5 (by decide) ?_
  refine zz_newq (k := 1) (n := 9) (N' := 9) X Z (zz_m 4 rfl) (zz_m 3 rfl) (by decide) (by decide) rfl rfl rfl rfl rfl dX0_init_7 (fun q1 k2 H Z => ?_)
  have Z : zz_S D A s [(b, .inr (0, [.null, .null, .null, .int 0, .int 0, .int 0, .int 0, .int 0, .int 0, .int 0, .int 0, .int 0, .int 0, .int 0])), (q1, .inl (k2, 9, .inr (.inr (.inr (.inr (fun _ => none))))))] [(k2, .object RX4)] H _ := Z
  refine zz_putF (WS' := [(b, .inr (0, [.null, .ref q1, .null, .int 0, .int 0, .int 0, .int 0, .int 0, .int 0, .int 0, .int 0, .int 0, .int 0, .int 0])), (q1, .inl (k2, 9, .inr (.inr (.inr (.inr (fun _ => none))))))]) X Z 0 rfl rfl (fun w h => List.mem_cons_of_mem _ (List.mem_append_left _ (List.mem_append_right _ h))) tyX0 tyX0_ok nmX0 1 rfl (zz_m 5 rfl) rfl hini rfl rfl rfl rfl dX0_init_10 rfl (fun H locs Z => ?_)
  refine lv_aload_n hx hb dX0_init_13 rfl (lv_at hl 0 rfl) ?_
  refine lv_iconst (v := 3) hx hb dX0_init_14 (by decide) ?_
  refine zz_newi (k := 2) (n := 12) (N' := 3) X Z (zz_m 6 rfl) (by decide) (by decide) rfl rfl rfl rfl rfl dX0_init_15 (fun q3 k4 H Z => ?_)
  have Z : zz_S D A s [(b, .inr (0, [.null, .ref q1, .null, .int 0, .int 0, .int 0, .int 0, .int 0, .int 0, .int 0, .int 0, .int 0, .int 0, .int 0])), (q1, .inl (k2, 9, .inr (.inr (.inr (.inr (fun _ => none)))))), (q3, .inl (k4, 3, .inl (fun _ => 0)))] [(k2, .object RX4), (k4, .int)] H _ := Z
  refine lv_dup hx hb dX0_init_17 rfl ?_
  refine lv_iconst (v := 0) hx hb dX0_init_18 (by decide) ?_
  refine lv_ldc (v := (-1000000005)) hx hb hown (hts _ (zz_m 7 rfl)) dX0_init_19 ?_
  refine zz_istN (WS' := fun f5 => [(b, .inr (0, [.null, .ref q1, .null, .int 0, .int 0, .int 0, .int 0, .int 0, .int 0, .int 0, .int 0, .int 0, .int 0, .int 0])), (q1, .inl (k2, 9, .inr (.inr (.inr (.inr (fun _ => none)))))), (q3, .inl (k4, 3, .inl f5))]) X Z 2 1 rfl rfl (zz_in 0 3 rfl) dX0_init_21 (fun _ => rfl) (fun f5 ef6 H locs Z => ?_)
  refine lv_dup hx hb dX0_init_22 rfl ?_
  refine lv_iconst (v := 1) hx hb dX0_init_23 (by decide) ?_
  refine lv_ldc (v := (-1000000005)) hx hb hown (hts _ (zz_m 7 rfl)) dX0_init_24 ?_
  refine zz_istN (WS' := fun f7 => [(b, .inr (0, [.null, .ref q1, .null, .int 0, .int 0, .int 0, .int 0, .int 0, .int 0, .int 0, .int 0, .int 0, .int 0, .int 0])), (q1, .inl (k2, 9, .inr (.inr (.inr (.inr (fun _ => none)))))), (q3, .inl (k4, 3, .inl f7))]) X Z 2 1 rfl rfl (zz_in 1 3 rfl) dX0_init_26 (fun _ => rfl) (fun f7 ef8 H locs Z => ?_)
  refine lv_dup hx hb dX0_init_27 rfl ?_
  refine lv_iconst (v := 2) hx hb dX0_init_28 (by decide) ?_
  refine lv_ldc (v := (-1000000005)) hx hb hown (hts _ (zz_m 7 rfl)) dX0_init_29 ?_
  refine zz_istN (WS' := fun f9 => [(b, .inr (0, [.null, .ref q1, .null, .int 0, .int 0, .int 0, .int 0, .int 0, .int 0, .int 0, .int 0, .int 0, .int 0, .int 0])), (q1, .inl (k2, 9, .inr (.inr (.inr (.inr (fun _ => none)))))), (q3, .inl (k4, 3, .inl f9))]) X Z 2 1 rfl rfl (zz_in 2 3 rfl) dX0_init_31 (fun _ => rfl) (fun f9 ef10 H locs Z => ?_)
  refine zz_putF (WS' := [(b, .inr (0, [.null, .ref q1, .ref q3, .int 0, .int 0, .int 0, .int 0, .int 0, .int 0, .int 0, .int 0, .int 0, .int 0, .int 0])), (q1, .inl (k2, 9, .inr (.inr (.inr (.inr (fun _ => none)))))), (q3, .inl (k4, 3, .inl f9))]) X Z 0 rfl rfl (fun w h => List.mem_cons_of_mem _ (List.mem_append_left _ (List.mem_append_right _ h))) tyX0 tyX0_ok nmX0 2 rfl (zz_m 8 rfl) rfl hini rfl rfl rfl rfl dX0_init_32 rfl (fun H locs Z => ?_)
  refine lv_aload_n hx hb dX0_init_35 rfl (lv_at hl 0 rfl) ?_
  refine lv_iconst (v := 3) hx hb dX0_init_36 (by decide) ?_
  refine zz_put (WS' := [(b, .inr (0, [.null, .ref q1, .ref q3, .int 0, .int 0, .int 3, .int 0, .int 0, .int 0, .int 0, .int 0, .int 0, .int 0, .int 0])), (q1, .inl (k2, 9, .inr (.inr (.inr (.inr (fun _ => none)))))), (q3, .inl (k4, 3, .inl f9))]) X Z 0 rfl rfl (fun w h => List.mem_cons_of_mem _ (List.mem_append_left _ (List.mem_append_right _ h))) tyX0 tyX0_ok nmX0 5 rfl (zz_m 9 rfl) rfl rfl rfl rfl dX0_init_37 rfl (fun H locs Z => ?_)
  refine lv_aload_n hx hb dX0_init_40 rfl (lv_at hl 0 rfl) ?_
  refine lv_bipush (v := 10) hx hb dX0_init_41 (by decide) ?_
  refine zz_put (WS' := [(b, .inr (0, [.null, .ref q1, .ref q3, .int 0, .int 0, .int 3, .int 0, .int 0, .int 10, .int 0, .int 0, .int 0, .int 0, .int 0])), (q1, .inl (k2, 9, .inr (.inr (.inr (.inr (fun _ => none)))))), (q3, .inl (k4, 3, .inl f9))]) X Z 0 rfl rfl (fun w h => List.mem_cons_of_mem _ (List.mem_append_left _ (List.mem_append_right _ h))) tyX0 tyX0_ok nmX0 8 rfl (zz_m 10 rfl) rfl rfl rfl rfl dX0_init_43 rfl (fun H locs Z => ?_)
  refine lv_aload_n hx hb dX0_init_46 rfl (lv_at hl 0 rfl) ?_
  refine lv_iconst (v := 0) hx hb dX0_init_47 (by decide) ?_
  refine zz_put (WS' := [(b, .inr (0, [.null, .ref q1, .ref q3, .int 0, .int 0, .int 3, .int 0, .int 0, .int 10, .int 0, .int 0, .int 0, .int 0, .int 0])), (q1, .inl (k2, 9, .inr (.inr (.inr (.inr (fun _ => none)))))), (q3, .inl (k4, 3, .inl f9))]) X Z 0 rfl rfl (fun w h => List.mem_cons_of_mem _ (List.mem_append_left _ (List.mem_append_right _ h))) tyX0 tyX0_ok nmX0 9 rfl (zz_m 11 rfl) rfl rfl rfl rfl dX0_init_48 rfl (fun H locs Z => ?_)
  refine lv_aload_n hx hb dX0_init_51 rfl (lv_at hl 0 rfl) ?_
  refine lv_iconst (v := 1) hx hb dX0_init_52 (by decide) ?_
  refine zz_put (WS' := [(b, .inr (0, [.null, .ref q1, .ref q3, .int 0, .int 0, .int 3, .int 0, .int 0, .int 10, .int 0, .int 0, .int 0, .int 0, .int 1])), (q1, .inl (k2, 9, .inr (.inr (.inr (.inr (fun _ => none)))))), (q3, .inl (k4, 3, .inl f9))]) X Z 0 rfl rfl (fun w h => List.mem_cons_of_mem _ (List.mem_append_left _ (List.mem_append_right _ h))) tyX0 tyX0_ok nmX0 13 rfl (zz_m 12 rfl) rfl rfl rfl rfl dX0_init_53 rfl (fun H locs Z => ?_)
  refine lv_aload_n hx hb dX0_init_56 rfl (lv_at hl 0 rfl) ?_
  refine lv_aload_n hx hb dX0_init_57 rfl (lv_at hl 1 rfl) ?_
  refine zz_putF (WS' := [(b, .inr (0, [.ref tx, .ref q1, .ref q3, .int 0, .int 0, .int 3, .int 0, .int 0, .int 10, .int 0, .int 0, .int 0, .int 0, .int 1])), (q1, .inl (k2, 9, .inr (.inr (.inr (.inr (fun _ => none)))))), (q3, .inl (k4, 3, .inl f9))]) X Z 0 rfl rfl (fun w h => List.mem_cons_of_mem _ (List.mem_append_left _ (List.mem_append_right _ h))) tyX0 tyX0_ok nmX0 0 rfl (zz_m 13 rfl) rfl hini rfl rfl rfl rfl dX0_init_58 rfl (fun H locs Z => ?_)
  refine lv_iconst (v := 0) hx hb dX0_init_61 (by decide) ?_
  refine lv_istore_n (lv' := [(2, .int 0), (0, .ref b), (1, .ref tx)]) hx hb dX0_init_62 rfl hl (by decide) rfl (fun ls hl => ?_)
  refine lv_iload_n hx hb dX0_init_63 rfl (lv_at hl 0 rfl) ?_
  refine lv_bipush (v := 9) hx hb dX0_init_64 (by decide) ?_
  refine lv_icmp_ge (tgt := 88) hx hb dX0_init_66 (by decide) (fun h => absurd h (by decide)) (fun _ => ?_)
  refine lv_aload_n hx hb dX0_init_69 rfl (lv_at hl 1 rfl) ?_
  refine zz_get X Z 0 rfl rfl (fun w h => List.mem_cons_of_mem _ (List.mem_append_left _ (List.mem_append_right _ h))) 1 rfl (zz_m 5 rfl) rfl dX0_init_70 ?_
  refine lv_iload_n hx hb dX0_init_73 rfl (lv_at hl 0 rfl) ?_
  refine zz_new (ci := 4) (fs := [.int 0, .int 0, .int 0, .int 0]) (k := 3) (n := 16) X Z rfl (fun w h => List.mem_cons_of_mem _ (List.mem_append_right _ h)) tyX4 tyX4_ok (zz_m 4 rfl) (zz_m 14 rfl) (zz_m 15 rfl) (fun j hj => by rcases (show j = 0 ∨ j = 1 ∨ j = 2 ∨ j = 3 by omega) with rfl | rfl | rfl | rfl <;> rfl) rfl rfl rfl rfl dX0_init_74 (fun q11 H Z => ?_)
  have Z : zz_S D A s [(b, .inr (0, [.ref tx, .ref q1, .ref q3, .int 0, .int 0, .int 3, .int 0, .int 0, .int 10, .int 0, .int 0, .int 0, .int 0, .int 1])), (q1, .inl (k2, 9, .inr (.inr (.inr (.inr (fun _ => none)))))), (q3, .inl (k4, 3, .inl f9)), (q11, .inr (4, [.int 0, .int 0, .int 0, .int 0]))] [(k2, .object RX4), (k4, .int)] H _ := Z
  refine lv_dup hx hb dX0_init_77 rfl ?_
  refine zz_cv (WC := [(q11, .inr (4, [.int 0, .int 0, .int 0, .int 0]))]) (TC := []) (WR := [(b, .inr (0, [.ref tx, .ref q1, .ref q3, .int 0, .int 0, .int 3, .int 0, .int 0, .int 10, .int 0, .int 0, .int 0, .int 0, .int 1])), (q1, .inl (k2, 9, .inr (.inr (.inr (.inr (fun _ => none)))))), (q3, .inl (k4, 3, .inl f9))]) (TR := [(k2, .object RX4), (k4, .int)]) (k := 3) (n := 16) Z [3] [0, 1, 2] [] [0, 1] rfl rfl rfl rfl rfl rfl rfl (fun Zc => va_runIN (As := []) (rest := [.ref q11, .int 0, .ref q1]) X (c_Stall_init l D q11 0 0 0 0 H.size) ⟨va_cnB 0 hts gX0_init_X4_init_n39 rfl rfl rfl (zz_nw Z.2.2.2.2.2 4 rfl) (hts _ (zz_m 15 rfl)) zh_X4_init ⟨Nat.le_of_ble_eq_true rfl, Nat.le_of_ble_eq_true rfl⟩, rfl, hts _ (zz_m 16 rfl)⟩ (zz_pS Zc) rfl rfl hl.1 rfl (lv_room (Nat.le_of_ble_eq_true rfl)) dX0_init_78 ⟨Nat.le_of_ble_eq_true rfl, Nat.le_of_ble_eq_true rfl⟩) rfl rfl (fun u12 H locs hw13 Z => ?_)
  have Z : zz_S D A s [(b, .inr (0, [.ref tx, .ref q1, .ref q3, .int 0, .int 0, .int 3, .int 0, .int 0, .int 10, .int 0, .int 0, .int 0, .int 0, .int 1])), (q1, .inl (k2, 9, .inr (.inr (.inr (.inr (fun _ => none)))))), (q3, .inl (k4, 3, .inl f9)), (q11, .inr (4, [.int 0, .int 0, .int 0, .int 0]))] [(k2, .object RX4), (k4, .int)] H locs := Z
  refine zz_astN (WS' := fun g15 => [(b, .inr (0, [.ref tx, .ref q1, .ref q3, .int 0, .int 0, .int 3, .int 0, .int 0, .int 10, .int 0, .int 0, .int 0, .int 0, .int 1])), (q1, .inl (k2, 9, .inr (.inr (.inr (.inr g15))))), (q3, .inl (k4, 3, .inl f9)), (q11, .inr (4, [.int 0, .int 0, .int 0, .int 0]))]) X Z 1 0 3 4 rfl rfl rfl rfl (zz_in 0 9 rfl) dX0_init_81 (fun _ => rfl) (fun g15 eg16 H locs Z => ?_)
  refine lv_iinc (v := 1) (lv' := [(2, .int 1), (0, .ref b), (1, .ref tx)]) hx hb dX0_init_82 hl (k := 0) rfl (by decide) (by decide) rfl (fun ls hl => ?_)
  refine lv_goto (tgt := 63) hx hb dX0_init_85 (by decide) ?_
  refine lv_iload_n hx hb dX0_init_63 rfl (lv_at hl 0 rfl) ?_
  refine lv_bipush (v := 9) hx hb dX0_init_64 (by decide) ?_
  refine lv_icmp_ge (tgt := 88) hx hb dX0_init_66 (by decide) (fun h => absurd h (by decide)) (fun _ => ?_)
  refine lv_aload_n hx hb dX0_init_69 rfl (lv_at hl 1 rfl) ?_
  refine zz_get X Z 0 rfl rfl (fun w h => List.mem_cons_of_mem _ (List.mem_append_left _ (List.mem_append_right _ h))) 1 rfl (zz_m 5 rfl) rfl dX0_init_70 ?_
  refine lv_iload_n hx hb dX0_init_73 rfl (lv_at hl 0 rfl) ?_
  refine zz_new (ci := 4) (fs := [.int 0, .int 0, .int 0, .int 0]) (k := 4) (n := 20) X Z rfl (fun w h => List.mem_cons_of_mem _ (List.mem_append_right _ h)) tyX4 tyX4_ok (zz_m 4 rfl) (zz_m 14 rfl) (zz_m 15 rfl) (fun j hj => by rcases (show j = 0 ∨ j = 1 ∨ j = 2 ∨ j = 3 by omega) with rfl | rfl | rfl | rfl <;> rfl) rfl rfl rfl rfl dX0_init_74 (fun q17 H Z => ?_)
  have Z : zz_S D A s [(b, .inr (0, [.ref tx, .ref q1, .ref q3, .int 0, .int 0, .int 3, .int 0, .int 0, .int 10, .int 0, .int 0, .int 0, .int 0, .int 1])), (q1, .inl (k2, 9, .inr (.inr (.inr (.inr g15))))), (q3, .inl (k4, 3, .inl f9)), (q11, .inr (4, [.int 0, .int 0, .int 0, .int 0])), (q17, .inr (4, [.int 0, .int 0, .int 0, .int 0]))] [(k2, .object RX4), (k4, .int)] H _ := Z
  refine lv_dup hx hb dX0_init_77 rfl ?_
  refine zz_cv (WC := [(q17, .inr (4, [.int 0, .int 0, .int 0, .int 0]))]) (TC := []) (WR := [(b, .inr (0, [.ref tx, .ref q1, .ref q3, .int 0, .int 0, .int 3, .int 0, .int 0, .int 10, .int 0, .int 0, .int 0, .int 0, .int 1])), (q1, .inl (k2, 9, .inr (.inr (.inr (.inr g15))))), (q3, .inl (k4, 3, .inl f9)), (q11, .inr (4, [.int 0, .int 0, .int 0, .int 0]))]) (TR := [(k2, .object RX4), (k4, .int)]) (k := 4) (n := 20) Z [4] [0, 1, 2, 3] [] [0, 1] rfl rfl rfl rfl rfl rfl rfl (fun Zc => va_runIN (As := []) (rest := [.ref q17, .int 1, .ref q1]) X (c_Stall_init l D q17 0 0 0 0 H.size) ⟨va_cnB 0 hts gX0_init_X4_init_n39 rfl rfl rfl (zz_nw Z.2.2.2.2.2 4 rfl) (hts _ (zz_m 15 rfl)) zh_X4_init ⟨Nat.le_of_ble_eq_true rfl, Nat.le_of_ble_eq_true rfl⟩, rfl, hts _ (zz_m 16 rfl)⟩ (zz_pS Zc) rfl rfl hl.1 rfl (lv_room (Nat.le_of_ble_eq_true rfl)) dX0_init_78 ⟨Nat.le_of_ble_eq_true rfl, Nat.le_of_ble_eq_true rfl⟩) rfl rfl (fun u18 H locs hw19 Z => ?_)
  have Z : zz_S D A s [(b, .inr (0, [.ref tx, .ref q1, .ref q3, .int 0, .int 0, .int 3, .int 0, .int 0, .int 10, .int 0, .int 0, .int 0, .int 0, .int 1])), (q1, .inl (k2, 9, .inr (.inr (.inr (.inr g15))))), (q3, .inl (k4, 3, .inl f9)), (q11, .inr (4, [.int 0, .int 0, .int 0, .int 0])), (q17, .inr (4, [.int 0, .int 0, .int 0, .int 0]))] [(k2, .object RX4), (k4, .int)] H locs := Z
  refine zz_astN (WS' := fun g21 => [(b, .inr (0, [.ref tx, .ref q1, .ref q3, .int 0, .int 0, .int 3, .int 0, .int 0, .int 10, .int 0, .int 0, .int 0, .int 0, .int 1])), (q1, .inl (k2, 9, .inr (.inr (.inr (.inr g21))))), (q3, .inl (k4, 3, .inl f9)), (q11, .inr (4, [.int 0, .int 0, .int 0, .int 0])), (q17, .inr (4, [.int 0, .int 0, .int 0, .int 0]))]) X Z 1 0 4 4 rfl rfl rfl rfl (zz_in 1 9 rfl) dX0_init_81 (fun _ => rfl) (fun g21 eg22 H locs Z => ?_)
  refine lv_iinc (v := 2) (lv' := [(2, .int 2), (0, .ref b), (1, .ref tx)]) hx hb dX0_init_82 hl (k := 0) rfl (by decide) (by decide) rfl (fun ls hl => ?_)
  refine lv_goto (tgt := 63) hx hb dX0_init_85 (by decide) ?_
  refine lv_iload_n hx hb dX0_init_63 rfl (lv_at hl 0 rfl) ?_
  refine lv_bipush (v := 9) hx hb dX0_init_64 (by decide) ?_
  refine lv_icmp_ge (tgt := 88) hx hb dX0_init_66 (by decide) (fun h => absurd h (by decide)) (fun _ => ?_)
  refine lv_aload_n hx hb dX0_init_69 rfl (lv_at hl 1 rfl) ?_
  refine zz_get X Z 0 rfl rfl (fun w h => List.mem_cons_of_mem _ (List.mem_append_left _ (List.mem_append_right _ h))) 1 rfl (zz_m 5 rfl) rfl dX0_init_70 ?_
  refine lv_iload_n hx hb dX0_init_73 rfl (lv_at hl 0 rfl) ?_
  refine zz_new (ci := 4) (fs := [.int 0, .int 0, .int 0, .int 0]) (k := 5) (n := 24) X Z rfl (fun w h => List.mem_cons_of_mem _ (List.mem_append_right _ h)) tyX4 tyX4_ok (zz_m 4 rfl) (zz_m 14 rfl) (zz_m 15 rfl) (fun j hj => by rcases (show j = 0 ∨ j = 1 ∨ j = 2 ∨ j = 3 by omega) with rfl | rfl | rfl | rfl <;> rfl) rfl rfl rfl rfl dX0_init_74 (fun q23 H Z => ?_)
  have Z : zz_S D A s [(b, .inr (0, [.ref tx, .ref q1, .ref q3, .int 0, .int 0, .int 3, .int 0, .int 0, .int 10, .int 0, .int 0, .int 0, .int 0, .int 1])), (q1, .inl (k2, 9, .inr (.inr (.inr (.inr g21))))), (q3, .inl (k4, 3, .inl f9)), (q11, .inr (4, [.int 0, .int 0, .int 0, .int 0])), (q17, .inr (4, [.int 0, .int 0, .int 0, .int 0])), (q23, .inr (4, [.int 0, .int 0, .int 0, .int 0]))] [(k2, .object RX4), (k4, .int)] H _ := Z
  refine lv_dup hx hb dX0_init_77 rfl ?_
  refine zz_cv (WC := [(q23, .inr (4, [.int 0, .int 0, .int 0, .int 0]))]) (TC := []) (WR := [(b, .inr (0, [.ref tx, .ref q1, .ref q3, .int 0, .int 0, .int 3, .int 0, .int 0, .int 10, .int 0, .int 0, .int 0, .int 0, .int 1])), (q1, .inl (k2, 9, .inr (.inr (.inr (.inr g21))))), (q3, .inl (k4, 3, .inl f9)), (q11, .inr (4, [.int 0, .int 0, .int 0, .int 0])), (q17, .inr (4, [.int 0, .int 0, .int 0, .int 0]))]) (TR := [(k2, .object RX4), (k4, .int)]) (k := 5) (n := 24) Z [5] [0, 1, 2, 3, 4] [] [0, 1] rfl rfl rfl rfl rfl rfl rfl (fun Zc => va_runIN (As := []) (rest := [.ref q23, .int 2, .ref q1]) X (c_Stall_init l D q23 0 0 0 0 H.size) ⟨va_cnB 0 hts gX0_init_X4_init_n39 rfl rfl rfl (zz_nw Z.2.2.2.2.2 4 rfl) (hts _ (zz_m 15 rfl)) zh_X4_init ⟨Nat.le_of_ble_eq_true rfl, Nat.le_of_ble_eq_true rfl⟩, rfl, hts _ (zz_m 16 rfl)⟩ (zz_pS Zc) rfl rfl hl.1 rfl (lv_room (Nat.le_of_ble_eq_true rfl)) dX0_init_78 ⟨Nat.le_of_ble_eq_true rfl, Nat.le_of_ble_eq_true rfl⟩) rfl rfl (fun u24 H locs hw25 Z => ?_)
  have Z : zz_S D A s [(b, .inr (0, [.ref tx, .ref q1, .ref q3, .int 0, .int 0, .int 3, .int 0, .int 0, .int 10, .int 0, .int 0, .int 0, .int 0, .int 1])), (q1, .inl (k2, 9, .inr (.inr (.inr (.inr g21))))), (q3, .inl (k4, 3, .inl f9)), (q11, .inr (4, [.int 0, .int 0, .int 0, .int 0])), (q17, .inr (4, [.int 0, .int 0, .int 0, .int 0])), (q23, .inr (4, [.int 0, .int 0, .int 0, .int 0]))] [(k2, .object RX4), (k4, .int)] H locs := Z
  refine zz_astN (WS' := fun g27 => [(b, .inr (0, [.ref tx, .ref q1, .ref q3, .int 0, .int 0, .int 3, .int 0, .int 0, .int 10, .int 0, .int 0, .int 0, .int 0, .int 1])), (q1, .inl (k2, 9, .inr (.inr (.inr (.inr g27))))), (q3, .inl (k4, 3, .inl f9)), (q11, .inr (4, [.int 0, .int 0, .int 0, .int 0])), (q17, .inr (4, [.int 0, .int 0, .int 0, .int 0])), (q23, .inr (4, [.int 0, .int 0, .int 0, .int 0]))]) X Z 1 0 5 4 rfl rfl rfl rfl (zz_in 2 9 rfl) dX0_init_81 (fun _ => rfl) (fun g27 eg28 H locs Z => ?_)
  refine lv_iinc (v := 3) (lv' := [(2, .int 3), (0, .ref b), (1, .ref tx)]) hx hb dX0_init_82 hl (k := 0) rfl (by decide) (by decide) rfl (fun ls hl => ?_)
  refine lv_goto (tgt := 63) hx hb dX0_init_85 (by decide) ?_
  refine lv_iload_n hx hb dX0_init_63 rfl (lv_at hl 0 rfl) ?_
  refine lv_bipush (v := 9) hx hb dX0_init_64 (by decide) ?_
  refine lv_icmp_ge (tgt := 88) hx hb dX0_init_66 (by decide) (fun h => absurd h (by decide)) (fun _ => ?_)
  refine lv_aload_n hx hb dX0_init_69 rfl (lv_at hl 1 rfl) ?_
  refine zz_get X Z 0 rfl rfl (fun w h => List.mem_cons_of_mem _ (List.mem_append_left _ (List.mem_append_right _ h))) 1 rfl (zz_m 5 rfl) rfl dX0_init_70 ?_
  refine lv_iload_n hx hb dX0_init_73 rfl (lv_at hl 0 rfl) ?_
  refine zz_new (ci := 4) (fs := [.int 0, .int 0, .int 0, .int 0]) (k := 6) (n := 28) X Z rfl (fun w h => List.mem_cons_of_mem _ (List.mem_append_right _ h)) tyX4 tyX4_ok (zz_m 4 rfl) (zz_m 14 rfl) (zz_m 15 rfl) (fun j hj => by rcases (show j = 0 ∨ j = 1 ∨ j = 2 ∨ j = 3 by omega) with rfl | rfl | rfl | rfl <;> rfl) rfl rfl rfl rfl dX0_init_74 (fun q29 H Z => ?_)
  have Z : zz_S D A s [(b, .inr (0, [.ref tx, .ref q1, .ref q3, .int 0, .int 0, .int 3, .int 0, .int 0, .int 10, .int 0, .int 0, .int 0, .int 0, .int 1])), (q1, .inl (k2, 9, .inr (.inr (.inr (.inr g27))))), (q3, .inl (k4, 3, .inl f9)), (q11, .inr (4, [.int 0, .int 0, .int 0, .int 0])), (q17, .inr (4, [.int 0, .int 0, .int 0, .int 0])), (q23, .inr (4, [.int 0, .int 0, .int 0, .int 0])), (q29, .inr (4, [.int 0, .int 0, .int 0, .int 0]))] [(k2, .object RX4), (k4, .int)] H _ := Z
  refine lv_dup hx hb dX0_init_77 rfl ?_
  refine zz_cv (WC := [(q29, .inr (4, [.int 0, .int 0, .int 0, .int 0]))]) (TC := []) (WR := [(b, .inr (0, [.ref tx, .ref q1, .ref q3, .int 0, .int 0, .int 3, .int 0, .int 0, .int 10, .int 0, .int 0, .int 0, .int 0, .int 1])), (q1, .inl (k2, 9, .inr (.inr (.inr (.inr g27))))), (q3, .inl (k4, 3, .inl f9)), (q11, .inr (4, [.int 0, .int 0, .int 0, .int 0])), (q17, .inr (4, [.int 0, .int 0, .int 0, .int 0])), (q23, .inr (4, [.int 0, .int 0, .int 0, .int 0]))]) (TR := [(k2, .object RX4), (k4, .int)]) (k := 6) (n := 28) Z [6] [0, 1, 2, 3, 4, 5] [] [0, 1] rfl rfl rfl rfl rfl rfl rfl (fun Zc => va_runIN (As := []) (rest := [.ref q29, .int 3, .ref q1]) X (c_Stall_init l D q29 0 0 0 0 H.size) ⟨va_cnB 0 hts gX0_init_X4_init_n39 rfl rfl rfl (zz_nw Z.2.2.2.2.2 4 rfl) (hts _ (zz_m 15 rfl)) zh_X4_init ⟨Nat.le_of_ble_eq_true rfl, Nat.le_of_ble_eq_true rfl⟩, rfl, hts _ (zz_m 16 rfl)⟩ (zz_pS Zc) rfl rfl hl.1 rfl (lv_room (Nat.le_of_ble_eq_true rfl)) dX0_init_78 ⟨Nat.le_of_ble_eq_true rfl, Nat.le_of_ble_eq_true rfl⟩) rfl rfl (fun u30 H locs hw31 Z => ?_)
  have Z : zz_S D A s [(b, .inr (0, [.ref tx, .ref q1, .ref q3, .int 0, .int 0, .int 3, .int 0, .int 0, .int 10, .int 0, .int 0, .int 0, .int 0, .int 1])), (q1, .inl (k2, 9, .inr (.inr (.inr (.inr g27))))), (q3, .inl (k4, 3, .inl f9)), (q11, .inr (4, [.int 0, .int 0, .int 0, .int 0])), (q17, .inr (4, [.int 0, .int 0, .int 0, .int 0])), (q23, .inr (4, [.int 0, .int 0, .int 0, .int 0])), (q29, .inr (4, [.int 0, .int 0, .int 0, .int 0]))] [(k2, .object RX4), (k4, .int)] H locs := Z
  refine zz_astN (WS' := fun g33 => [(b, .inr (0, [.ref tx, .ref q1, .ref q3, .int 0, .int 0, .int 3, .int 0, .int 0, .int 10, .int 0, .int 0, .int 0, .int 0, .int 1])), (q1, .inl (k2, 9, .inr (.inr (.inr (.inr g33))))), (q3, .inl (k4, 3, .inl f9)), (q11, .inr (4, [.int 0, .int 0, .int 0, .int 0])), (q17, .inr (4, [.int 0, .int 0, .int 0, .int 0])), (q23, .inr (4, [.int 0, .int 0, .int 0, .int 0])), (q29, .inr (4, [.int 0, .int 0, .int 0, .int 0]))]) X Z 1 0 6 4 rfl rfl rfl rfl (zz_in 3 9 rfl) dX0_init_81 (fun _ => rfl) (fun g33 eg34 H locs Z => ?_)
  refine lv_iinc (v := 4) (lv' := [(2, .int 4), (0, .ref b), (1, .ref tx)]) hx hb dX0_init_82 hl (k := 0) rfl (by decide) (by decide) rfl (fun ls hl => ?_)
  refine lv_goto (tgt := 63) hx hb dX0_init_85 (by decide) ?_
  refine lv_iload_n hx hb dX0_init_63 rfl (lv_at hl 0 rfl) ?_
  refine lv_bipush (v := 9) hx hb dX0_init_64 (by decide) ?_
  refine lv_icmp_ge (tgt := 88) hx hb dX0_init_66 (by decide) (fun h => absurd h (by decide)) (fun _ => ?_)
  refine lv_aload_n hx hb dX0_init_69 rfl (lv_at hl 1 rfl) ?_
  refine zz_get X Z 0 rfl rfl (fun w h => List.mem_cons_of_mem _ (List.mem_append_left _ (List.mem_append_right _ h))) 1 rfl (zz_m 5 rfl) rfl dX0_init_70 ?_
  refine lv_iload_n hx hb dX0_init_73 rfl (lv_at hl 0 rfl) ?_
  refine zz_new (ci := 4) (fs := [.int 0, .int 0, .int 0, .int 0]) (k := 7) (n := 32) X Z rfl (fun w h => List.mem_cons_of_mem _ (List.mem_append_right _ h)) tyX4 tyX4_ok (zz_m 4 rfl) (zz_m 14 rfl) (zz_m 15 rfl) (fun j hj => by rcases (show j = 0 ∨ j = 1 ∨ j = 2 ∨ j = 3 by omega) with rfl | rfl | rfl | rfl <;> rfl) rfl rfl rfl rfl dX0_init_74 (fun q35 H Z => ?_)
  have Z : zz_S D A s [(b, .inr (0, [.ref tx, .ref q1, .ref q3, .int 0, .int 0, .int 3, .int 0, .int 0, .int 10, .int 0, .int 0, .int 0, .int 0, .int 1])), (q1, .inl (k2, 9, .inr (.inr (.inr (.inr g33))))), (q3, .inl (k4, 3, .inl f9)), (q11, .inr (4, [.int 0, .int 0, .int 0, .int 0])), (q17, .inr (4, [.int 0, .int 0, .int 0, .int 0])), (q23, .inr (4, [.int 0, .int 0, .int 0, .int 0])), (q29, .inr (4, [.int 0, .int 0, .int 0, .int 0])), (q35, .inr (4, [.int 0, .int 0, .int 0, .int 0]))] [(k2, .object RX4), (k4, .int)] H _ := Z
  refine lv_dup hx hb dX0_init_77 rfl ?_
  refine zz_cv (WC := [(q35, .inr (4, [.int 0, .int 0, .int 0, .int 0]))]) (TC := []) (WR := [(b, .inr (0, [.ref tx, .ref q1, .ref q3, .int 0, .int 0, .int 3, .int 0, .int 0, .int 10, .int 0, .int 0, .int 0, .int 0, .int 1])), (q1, .inl (k2, 9, .inr (.inr (.inr (.inr g33))))), (q3, .inl (k4, 3, .inl f9)), (q11, .inr (4, [.int 0, .int 0, .int 0, .int 0])), (q17, .inr (4, [.int 0, .int 0, .int 0, .int 0])), (q23, .inr (4, [.int 0, .int 0, .int 0, .int 0])), (q29, .inr (4, [.int 0, .int 0, .int 0, .int 0]))]) (TR := [(k2, .object RX4), (k4, .int)]) (k := 7) (n := 32) Z [7] [0, 1, 2, 3, 4, 5, 6] [] [0, 1] rfl rfl rfl rfl rfl rfl rfl (fun Zc => va_runIN (As := []) (rest := [.ref q35, .int 4, .ref q1]) X (c_Stall_init l D q35 0 0 0 0 H.size) ⟨va_cnB 0 hts gX0_init_X4_init_n39 rfl rfl rfl (zz_nw Z.2.2.2.2.2 4 rfl) (hts _ (zz_m 15 rfl)) zh_X4_init ⟨Nat.le_of_ble_eq_true rfl, Nat.le_of_ble_eq_true rfl⟩, rfl, hts _ (zz_m 16 rfl)⟩ (zz_pS Zc) rfl rfl hl.1 rfl (lv_room (Nat.le_of_ble_eq_true rfl)) dX0_init_78 ⟨Nat.le_of_ble_eq_true rfl, Nat.le_of_ble_eq_true rfl⟩) rfl rfl (fun u36 H locs hw37 Z => ?_)
  have Z : zz_S D A s [(b, .inr (0, [.ref tx, .ref q1, .ref q3, .int 0, .int 0, .int 3, .int 0, .int 0, .int 10, .int 0, .int 0, .int 0, .int 0, .int 1])), (q1, .inl (k2, 9, .inr (.inr (.inr (.inr g33))))), (q3, .inl (k4, 3, .inl f9)), (q11, .inr (4, [.int 0, .int 0, .int 0, .int 0])), (q17, .inr (4, [.int 0, .int 0, .int 0, .int 0])), (q23, .inr (4, [.int 0, .int 0, .int 0, .int 0])), (q29, .inr (4, [.int 0, .int 0, .int 0, .int 0])), (q35, .inr (4, [.int 0, .int 0, .int 0, .int 0]))] [(k2, .object RX4), (k4, .int)] H locs := Z
  refine zz_astN (WS' := fun g39 => [(b, .inr (0, [.ref tx, .ref q1, .ref q3, .int 0, .int 0, .int 3, .int 0, .int 0, .int 10, .int 0, .int 0, .int 0, .int 0, .int 1])), (q1, .inl (k2, 9, .inr (.inr (.inr (.inr g39))))), (q3, .inl (k4, 3, .inl f9)), (q11, .inr (4, [.int 0, .int 0, .int 0, .int 0])), (q17, .inr (4, [.int 0, .int 0, .int 0, .int 0])), (q23, .inr (4, [.int 0, .int 0, .int 0, .int 0])), (q29, .inr (4, [.int 0, .int 0, .int 0, .int 0])), (q35, .inr (4, [.int 0, .int 0, .int 0, .int 0]))]) X Z 1 0 7 4 rfl rfl rfl rfl (zz_in 4 9 rfl) dX0_init_81 (fun _ => rfl) (fun g39 eg40 H locs Z => ?_)
  refine lv_iinc (v := 5) (lv' := [(2, .int 5), (0, .ref b), (1, .ref tx)]) hx hb dX0_init_82 hl (k := 0) rfl (by decide) (by decide) rfl (fun ls hl => ?_)
  refine lv_goto (tgt := 63) hx hb dX0_init_85 (by decide) ?_
  refine lv_iload_n hx hb dX0_init_63 rfl (lv_at hl 0 rfl) ?_
  refine lv_bipush (v := 9) hx hb dX0_init_64 (by decide) ?_
  refine lv_icmp_ge (tgt := 88) hx hb dX0_init_66 (by decide) (fun h => absurd h (by decide)) (fun _ => ?_)
  refine lv_aload_n hx hb dX0_init_69 rfl (lv_at hl 1 rfl) ?_
  refine zz_get X Z 0 rfl rfl (fun w h => List.mem_cons_of_mem _ (List.mem_append_left _ (List.mem_append_right _ h))) 1 rfl (zz_m 5 rfl) rfl dX0_init_70 ?_
  refine lv_iload_n hx hb dX0_init_73 rfl (lv_at hl 0 rfl) ?_
  refine zz_new (ci := 4) (fs := [.int 0, .int 0, .int 0, .int 0]) (k := 8) (n := 36) X Z rfl (fun w h => List.mem_cons_of_mem _ (List.mem_append_right _ h)) tyX4 tyX4_ok (zz_m 4 rfl) (zz_m 14 rfl) (zz_m 15 rfl) (fun j hj => by rcases (show j = 0 ∨ j = 1 ∨ j = 2 ∨ j = 3 by omega) with rfl | rfl | rfl | rfl <;> rfl) rfl rfl rfl rfl dX0_init_74 (fun q41 H Z => ?_)
  have Z : zz_S D A s [(b, .inr (0, [.ref tx, .ref q1, .ref q3, .int 0, .int 0, .int 3, .int 0, .int 0, .int 10, .int 0, .int 0, .int 0, .int 0, .int 1])), (q1, .inl (k2, 9, .inr (.inr (.inr (.inr g39))))), (q3, .inl (k4, 3, .inl f9)), (q11, .inr (4, [.int 0, .int 0, .int 0, .int 0])), (q17, .inr (4, [.int 0, .int 0, .int 0, .int 0])), (q23, .inr (4, [.int 0, .int 0, .int 0, .int 0])), (q29, .inr (4, [.int 0, .int 0, .int 0, .int 0])), (q35, .inr (4, [.int 0, .int 0, .int 0, .int 0])), (q41, .inr (4, [.int 0, .int 0, .int 0, .int 0]))] [(k2, .object RX4), (k4, .int)] H _ := Z
  refine lv_dup hx hb dX0_init_77 rfl ?_
  refine zz_cv (WC := [(q41, .inr (4, [.int 0, .int 0, .int 0, .int 0]))]) (TC := []) (WR := [(b, .inr (0, [.ref tx, .ref q1, .ref q3, .int 0, .int 0, .int 3, .int 0, .int 0, .int 10, .int 0, .int 0, .int 0, .int 0, .int 1])), (q1, .inl (k2, 9, .inr (.inr (.inr (.inr g39))))), (q3, .inl (k4, 3, .inl f9)), (q11, .inr (4, [.int 0, .int 0, .int 0, .int 0])), (q17, .inr (4, [.int 0, .int 0, .int 0, .int 0])), (q23, .inr (4, [.int 0, .int 0, .int 0, .int 0])), (q29, .inr (4, [.int 0, .int 0, .int 0, .int 0])), (q35, .inr (4, [.int 0, .int 0, .int 0, .int 0]))]) (TR := [(k2, .object RX4), (k4, .int)]) (k := 8) (n := 36) Z [8] [0, 1, 2, 3, 4, 5, 6, 7] [] [0, 1] rfl rfl rfl rfl rfl rfl rfl (fun Zc => va_runIN (As := []) (rest := [.ref q41, .int 5, .ref q1]) X (c_Stall_init l D q41 0 0 0 0 H.size) ⟨va_cnB 0 hts gX0_init_X4_init_n39 rfl rfl rfl (zz_nw Z.2.2.2.2.2 4 rfl) (hts _ (zz_m 15 rfl)) zh_X4_init ⟨Nat.le_of_ble_eq_true rfl, Nat.le_of_ble_eq_true rfl⟩, rfl, hts _ (zz_m 16 rfl)⟩ (zz_pS Zc) rfl rfl hl.1 rfl (lv_room (Nat.le_of_ble_eq_true rfl)) dX0_init_78 ⟨Nat.le_of_ble_eq_true rfl, Nat.le_of_ble_eq_true rfl⟩) rfl rfl (fun u42 H locs hw43 Z => ?_)
  have Z : zz_S D A s [(b, .inr (0, [.ref tx, .ref q1, .ref q3, .int 0, .int 0, .int 3, .int 0, .int 0, .int 10, .int 0, .int 0, .int 0, .int 0, .int 1])), (q1, .inl (k2, 9, .inr (.inr (.inr (.inr g39))))), (q3, .inl (k4, 3, .inl f9)), (q11, .inr (4, [.int 0, .int 0, .int 0, .int 0])), (q17, .inr (4, [.int 0, .int 0, .int 0, .int 0])), (q23, .inr (4, [.int 0, .int 0, .int 0, .int 0])), (q29, .inr (4, [.int 0, .int 0, .int 0, .int 0])), (q35, .inr (4, [.int 0, .int 0, .int 0, .int 0])), (q41, .inr (4, [.int 0, .int 0, .int 0, .int 0]))] [(k2, .object RX4), (k4, .int)] H locs := Z
  refine zz_astN (WS' := fun g45 => [(b, .inr (0, [.ref tx, .ref q1, .ref q3, .int 0, .int 0, .int 3, .int 0, .int 0, .int 10, .int 0, .int 0, .int 0, .int 0, .int 1])), (q1, .inl (k2, 9, .inr (.inr (.inr (.inr g45))))), (q3, .inl (k4, 3, .inl f9)), (q11, .inr (4, [.int 0, .int 0, .int 0, .int 0])), (q17, .inr (4, [.int 0, .int 0, .int 0, .int 0])), (q23, .inr (4, [.int 0, .int 0, .int 0, .int 0])), (q29, .inr (4, [.int 0, .int 0, .int 0, .int 0])), (q35, .inr (4, [.int 0, .int 0, .int 0, .int 0])), (q41, .inr (4, [.int 0, .int 0, .int 0, .int 0]))]) X Z 1 0 8 4 rfl rfl rfl rfl (zz_in 5 9 rfl) dX0_init_81 (fun _ => rfl) (fun g45 eg46 H locs Z => ?_)
  refine lv_iinc (v := 6) (lv' := [(2, .int 6), (0, .ref b), (1, .ref tx)]) hx hb dX0_init_82 hl (k := 0) rfl (by decide) (by decide) rfl (fun ls hl => ?_)
  refine lv_goto (tgt := 63) hx hb dX0_init_85 (by decide) ?_
  refine lv_iload_n hx hb dX0_init_63 rfl (lv_at hl 0 rfl) ?_
  refine lv_bipush (v := 9) hx hb dX0_init_64 (by decide) ?_
  refine lv_icmp_ge (tgt := 88) hx hb dX0_init_66 (by decide) (fun h => absurd h (by decide)) (fun _ => ?_)
  refine lv_aload_n hx hb dX0_init_69 rfl (lv_at hl 1 rfl) ?_
  refine zz_get X Z 0 rfl rfl (fun w h => List.mem_cons_of_mem _ (List.mem_append_left _ (List.mem_append_right _ h))) 1 rfl (zz_m 5 rfl) rfl dX0_init_70 ?_
  refine lv_iload_n hx hb dX0_init_73 rfl (lv_at hl 0 rfl) ?_
  refine zz_new (ci := 4) (fs := [.int 0, .int 0, .int 0, .int 0]) (k := 9) (n := 40) X Z rfl (fun w h => List.mem_cons_of_mem _ (List.mem_append_right _ h)) tyX4 tyX4_ok (zz_m 4 rfl) (zz_m 14 rfl) (zz_m 15 rfl) (fun j hj => by rcases (show j = 0 ∨ j = 1 ∨ j = 2 ∨ j = 3 by omega) with rfl | rfl | rfl | rfl <;> rfl) rfl rfl rfl rfl dX0_init_74 (fun q47 H Z => ?_)
  have Z : zz_S D A s [(b, .inr (0, [.ref tx, .ref q1, .ref q3, .int 0, .int 0, .int 3, .int 0, .int 0, .int 10, .int 0, .int 0, .int 0, .int 0, .int 1])), (q1, .inl (k2, 9, .inr (.inr (.inr (.inr g45))))), (q3, .inl (k4, 3, .inl f9)), (q11, .inr (4, [.int 0, .int 0, .int 0, .int 0])), (q17, .inr (4, [.int 0, .int 0, .int 0, .int 0])), (q23, .inr (4, [.int 0, .int 0, .int 0, .int 0])), (q29, .inr (4, [.int 0, .int 0, .int 0, .int 0])), (q35, .inr (4, [.int 0, .int 0, .int 0, .int 0])), (q41, .inr (4, [.int 0, .int 0, .int 0, .int 0])), (q47, .inr (4, [.int 0, .int 0, .int 0, .int 0]))] [(k2, .object RX4), (k4, .int)] H _ := Z
  refine lv_dup hx hb dX0_init_77 rfl ?_
  refine zz_cv (WC := [(q47, .inr (4, [.int 0, .int 0, .int 0, .int 0]))]) (TC := []) (WR := [(b, .inr (0, [.ref tx, .ref q1, .ref q3, .int 0, .int 0, .int 3, .int 0, .int 0, .int 10, .int 0, .int 0, .int 0, .int 0, .int 1])), (q1, .inl (k2, 9, .inr (.inr (.inr (.inr g45))))), (q3, .inl (k4, 3, .inl f9)), (q11, .inr (4, [.int 0, .int 0, .int 0, .int 0])), (q17, .inr (4, [.int 0, .int 0, .int 0, .int 0])), (q23, .inr (4, [.int 0, .int 0, .int 0, .int 0])), (q29, .inr (4, [.int 0, .int 0, .int 0, .int 0])), (q35, .inr (4, [.int 0, .int 0, .int 0, .int 0])), (q41, .inr (4, [.int 0, .int 0, .int 0, .int 0]))]) (TR := [(k2, .object RX4), (k4, .int)]) (k := 9) (n := 40) Z [9] [0, 1, 2, 3, 4, 5, 6, 7, 8] [] [0, 1] rfl rfl rfl rfl rfl rfl rfl (fun Zc => va_runIN (As := []) (rest := [.ref q47, .int 6, .ref q1]) X (c_Stall_init l D q47 0 0 0 0 H.size) ⟨va_cnB 0 hts gX0_init_X4_init_n39 rfl rfl rfl (zz_nw Z.2.2.2.2.2 4 rfl) (hts _ (zz_m 15 rfl)) zh_X4_init ⟨Nat.le_of_ble_eq_true rfl, Nat.le_of_ble_eq_true rfl⟩, rfl, hts _ (zz_m 16 rfl)⟩ (zz_pS Zc) rfl rfl hl.1 rfl (lv_room (Nat.le_of_ble_eq_true rfl)) dX0_init_78 ⟨Nat.le_of_ble_eq_true rfl, Nat.le_of_ble_eq_true rfl⟩) rfl rfl (fun u48 H locs hw49 Z => ?_)
  have Z : zz_S D A s [(b, .inr (0, [.ref tx, .ref q1, .ref q3, .int 0, .int 0, .int 3, .int 0, .int 0, .int 10, .int 0, .int 0, .int 0, .int 0, .int 1])), (q1, .inl (k2, 9, .inr (.inr (.inr (.inr g45))))), (q3, .inl (k4, 3, .inl f9)), (q11, .inr (4, [.int 0, .int 0, .int 0, .int 0])), (q17, .inr (4, [.int 0, .int 0, .int 0, .int 0])), (q23, .inr (4, [.int 0, .int 0, .int 0, .int 0])), (q29, .inr (4, [.int 0, .int 0, .int 0, .int 0])), (q35, .inr (4, [.int 0, .int 0, .int 0, .int 0])), (q41, .inr (4, [.int 0, .int 0, .int 0, .int 0])), (q47, .inr (4, [.int 0, .int 0, .int 0, .int 0]))] [(k2, .object RX4), (k4, .int)] H locs := Z
  refine zz_astN (WS' := fun g51 => [(b, .inr (0, [.ref tx, .ref q1, .ref q3, .int 0, .int 0, .int 3, .int 0, .int 0, .int 10, .int 0, .int 0, .int 0, .int 0, .int 1])), (q1, .inl (k2, 9, .inr (.inr (.inr (.inr g51))))), (q3, .inl (k4, 3, .inl f9)), (q11, .inr (4, [.int 0, .int 0, .int 0, .int 0])), (q17, .inr (4, [.int 0, .int 0, .int 0, .int 0])), (q23, .inr (4, [.int 0, .int 0, .int 0, .int 0])), (q29, .inr (4, [.int 0, .int 0, .int 0, .int 0])), (q35, .inr (4, [.int 0, .int 0, .int 0, .int 0])), (q41, .inr (4, [.int 0, .int 0, .int 0, .int 0])), (q47, .inr (4, [.int 0, .int 0, .int 0, .int 0]))]) X Z 1 0 9 4 rfl rfl rfl rfl (zz_in 6 9 rfl) dX0_init_81 (fun _ => rfl) (fun g51 eg52 H locs Z => ?_)
  refine lv_iinc (v := 7) (lv' := [(2, .int 7), (0, .ref b), (1, .ref tx)]) hx hb dX0_init_82 hl (k := 0) rfl (by decide) (by decide) rfl (fun ls hl => ?_)
  refine lv_goto (tgt := 63) hx hb dX0_init_85 (by decide) ?_
  refine lv_iload_n hx hb dX0_init_63 rfl (lv_at hl 0 rfl) ?_
  refine lv_bipush (v := 9) hx hb dX0_init_64 (by decide) ?_
  refine lv_icmp_ge (tgt := 88) hx hb dX0_init_66 (by decide) (fun h => absurd h (by decide)) (fun _ => ?_)
  refine lv_aload_n hx hb dX0_init_69 rfl (lv_at hl 1 rfl) ?_
  refine zz_get X Z 0 rfl rfl (fun w h => List.mem_cons_of_mem _ (List.mem_append_left _ (List.mem_append_right _ h))) 1 rfl (zz_m 5 rfl) rfl dX0_init_70 ?_
  refine lv_iload_n hx hb dX0_init_73 rfl (lv_at hl 0 rfl) ?_
  refine zz_new (ci := 4) (fs := [.int 0, .int 0, .int 0, .int 0]) (k := 10) (n := 44) X Z rfl (fun w h => List.mem_cons_of_mem _ (List.mem_append_right _ h)) tyX4 tyX4_ok (zz_m 4 rfl) (zz_m 14 rfl) (zz_m 15 rfl) (fun j hj => by rcases (show j = 0 ∨ j = 1 ∨ j = 2 ∨ j = 3 by omega) with rfl | rfl | rfl | rfl <;> rfl) rfl rfl rfl rfl dX0_init_74 (fun q53 H Z => ?_)
  have Z : zz_S D A s [(b, .inr (0, [.ref tx, .ref q1, .ref q3, .int 0, .int 0, .int 3, .int 0, .int 0, .int 10, .int 0, .int 0, .int 0, .int 0, .int 1])), (q1, .inl (k2, 9, .inr (.inr (.inr (.inr g51))))), (q3, .inl (k4, 3, .inl f9)), (q11, .inr (4, [.int 0, .int 0, .int 0, .int 0])), (q17, .inr (4, [.int 0, .int 0, .int 0, .int 0])), (q23, .inr (4, [.int 0, .int 0, .int 0, .int 0])), (q29, .inr (4, [.int 0, .int 0, .int 0, .int 0])), (q35, .inr (4, [.int 0, .int 0, .int 0, .int 0])), (q41, .inr (4, [.int 0, .int 0, .int 0, .int 0])), (q47, .inr (4, [.int 0, .int 0, .int 0, .int 0])), (q53, .inr (4, [.int 0, .int 0, .int 0, .int 0]))] [(k2, .object RX4), (k4, .int)] H _ := Z
  refine lv_dup hx hb dX0_init_77 rfl ?_
  refine zz_cv (WC := [(q53, .inr (4, [.int 0, .int 0, .int 0, .int 0]))]) (TC := []) (WR := [(b, .inr (0, [.ref tx, .ref q1, .ref q3, .int 0, .int 0, .int 3, .int 0, .int 0, .int 10, .int 0, .int 0, .int 0, .int 0, .int 1])), (q1, .inl (k2, 9, .inr (.inr (.inr (.inr g51))))), (q3, .inl (k4, 3, .inl f9)), (q11, .inr (4, [.int 0, .int 0, .int 0, .int 0])), (q17, .inr (4, [.int 0, .int 0, .int 0, .int 0])), (q23, .inr (4, [.int 0, .int 0, .int 0, .int 0])), (q29, .inr (4, [.int 0, .int 0, .int 0, .int 0])), (q35, .inr (4, [.int 0, .int 0, .int 0, .int 0])), (q41, .inr (4, [.int 0, .int 0, .int 0, .int 0])), (q47, .inr (4, [.int 0, .int 0, .int 0, .int 0]))]) (TR := [(k2, .object RX4), (k4, .int)]) (k := 10) (n := 44) Z [10] [0, 1, 2, 3, 4, 5, 6, 7, 8, 9] [] [0, 1] rfl rfl rfl rfl rfl rfl rfl (fun Zc => va_runIN (As := []) (rest := [.ref q53, .int 7, .ref q1]) X (c_Stall_init l D q53 0 0 0 0 H.size) ⟨va_cnB 0 hts gX0_init_X4_init_n39 rfl rfl rfl (zz_nw Z.2.2.2.2.2 4 rfl) (hts _ (zz_m 15 rfl)) zh_X4_init ⟨Nat.le_of_ble_eq_true rfl, Nat.le_of_ble_eq_true rfl⟩, rfl, hts _ (zz_m 16 rfl)⟩ (zz_pS Zc) rfl rfl hl.1 rfl (lv_room (Nat.le_of_ble_eq_true rfl)) dX0_init_78 ⟨Nat.le_of_ble_eq_true rfl, Nat.le_of_ble_eq_true rfl⟩) rfl rfl (fun u54 H locs hw55 Z => ?_)
  have Z : zz_S D A s [(b, .inr (0, [.ref tx, .ref q1, .ref q3, .int 0, .int 0, .int 3, .int 0, .int 0, .int 10, .int 0, .int 0, .int 0, .int 0, .int 1])), (q1, .inl (k2, 9, .inr (.inr (.inr (.inr g51))))), (q3, .inl (k4, 3, .inl f9)), (q11, .inr (4, [.int 0, .int 0, .int 0, .int 0])), (q17, .inr (4, [.int 0, .int 0, .int 0, .int 0])), (q23, .inr (4, [.int 0, .int 0, .int 0, .int 0])), (q29, .inr (4, [.int 0, .int 0, .int 0, .int 0])), (q35, .inr (4, [.int 0, .int 0, .int 0, .int 0])), (q41, .inr (4, [.int 0, .int 0, .int 0, .int 0])), (q47, .inr (4, [.int 0, .int 0, .int 0, .int 0])), (q53, .inr (4, [.int 0, .int 0, .int 0, .int 0]))] [(k2, .object RX4), (k4, .int)] H locs := Z
  refine zz_astN (WS' := fun g57 => [(b, .inr (0, [.ref tx, .ref q1, .ref q3, .int 0, .int 0, .int 3, .int 0, .int 0, .int 10, .int 0, .int 0, .int 0, .int 0, .int 1])), (q1, .inl (k2, 9, .inr (.inr (.inr (.inr g57))))), (q3, .inl (k4, 3, .inl f9)), (q11, .inr (4, [.int 0, .int 0, .int 0, .int 0])), (q17, .inr (4, [.int 0, .int 0, .int 0, .int 0])), (q23, .inr (4, [.int 0, .int 0, .int 0, .int 0])), (q29, .inr (4, [.int 0, .int 0, .int 0, .int 0])), (q35, .inr (4, [.int 0, .int 0, .int 0, .int 0])), (q41, .inr (4, [.int 0, .int 0, .int 0, .int 0])), (q47, .inr (4, [.int 0, .int 0, .int 0, .int 0])), (q53, .inr (4, [.int 0, .int 0, .int 0, .int 0]))]) X Z 1 0 10 4 rfl rfl rfl rfl (zz_in 7 9 rfl) dX0_init_81 (fun _ => rfl) (fun g57 eg58 H locs Z => ?_)
  refine lv_iinc (v := 8) (lv' := [(2, .int 8), (0, .ref b), (1, .ref tx)]) hx hb dX0_init_82 hl (k := 0) rfl (by decide) (by decide) rfl (fun ls hl => ?_)
  refine lv_goto (tgt := 63) hx hb dX0_init_85 (by decide) ?_
  refine lv_iload_n hx hb dX0_init_63 rfl (lv_at hl 0 rfl) ?_
  refine lv_bipush (v := 9) hx hb dX0_init_64 (by decide) ?_
  refine lv_icmp_ge (tgt := 88) hx hb dX0_init_66 (by decide) (fun h => absurd h (by decide)) (fun _ => ?_)
  refine lv_aload_n hx hb dX0_init_69 rfl (lv_at hl 1 rfl) ?_
  refine zz_get X Z 0 rfl rfl (fun w h => List.mem_cons_of_mem _ (List.mem_append_left _ (List.mem_append_right _ h))) 1 rfl (zz_m 5 rfl) rfl dX0_init_70 ?_
  refine lv_iload_n hx hb dX0_init_73 rfl (lv_at hl 0 rfl) ?_
  refine zz_new (ci := 4) (fs := [.int 0, .int 0, .int 0, .int 0]) (k := 11) (n := 48) X Z rfl (fun w h => List.mem_cons_of_mem _ (List.mem_append_right _ h)) tyX4 tyX4_ok (zz_m 4 rfl) (zz_m 14 rfl) (zz_m 15 rfl) (fun j hj => by rcases (show j = 0 ∨ j = 1 ∨ j = 2 ∨ j = 3 by omega) with rfl | rfl | rfl | rfl <;> rfl) rfl rfl rfl rfl dX0_init_74 (fun q59 H Z => ?_)
  have Z : zz_S D A s [(b, .inr (0, [.ref tx, .ref q1, .ref q3, .int 0, .int 0, .int 3, .int 0, .int 0, .int 10, .int 0, .int 0, .int 0, .int 0, .int 1])), (q1, .inl (k2, 9, .inr (.inr (.inr (.inr g57))))), (q3, .inl (k4, 3, .inl f9)), (q11, .inr (4, [.int 0, .int 0, .int 0, .int 0])), (q17, .inr (4, [.int 0, .int 0, .int 0, .int 0])), (q23, .inr (4, [.int 0, .int 0, .int 0, .int 0])), (q29, .inr (4, [.int 0, .int 0, .int 0, .int 0])), (q35, .inr (4, [.int 0, .int 0, .int 0, .int 0])), (q41, .inr (4, [.int 0, .int 0, .int 0, .int 0])), (q47, .inr (4, [.int 0, .int 0, .int 0, .int 0])), (q53, .inr (4, [.int 0, .int 0, .int 0, .int 0])), (q59, .inr (4, [.int 0, .int 0, .int 0, .int 0]))] [(k2, .object RX4), (k4, .int)] H _ := Z
  refine lv_dup hx hb dX0_init_77 rfl ?_
  refine zz_cv (WC := [(q59, .inr (4, [.int 0, .int 0, .int 0, .int 0]))]) (TC := []) (WR := [(b, .inr (0, [.ref tx, .ref q1, .ref q3, .int 0, .int 0, .int 3, .int 0, .int 0, .int 10, .int 0, .int 0, .int 0, .int 0, .int 1])), (q1, .inl (k2, 9, .inr (.inr (.inr (.inr g57))))), (q3, .inl (k4, 3, .inl f9)), (q11, .inr (4, [.int 0, .int 0, .int 0, .int 0])), (q17, .inr (4, [.int 0, .int 0, .int 0, .int 0])), (q23, .inr (4, [.int 0, .int 0, .int 0, .int 0])), (q29, .inr (4, [.int 0, .int 0, .int 0, .int 0])), (q35, .inr (4, [.int 0, .int 0, .int 0, .int 0])), (q41, .inr (4, [.int 0, .int 0, .int 0, .int 0])), (q47, .inr (4, [.int 0, .int 0, .int 0, .int 0])), (q53, .inr (4, [.int 0, .int 0, .int 0, .int 0]))]) (TR := [(k2, .object RX4), (k4, .int)]) (k := 11) (n := 48) Z [11] [0, 1, 2, 3, 4, 5, 6, 7, 8, 9, 10] [] [0, 1] rfl rfl rfl rfl rfl rfl rfl (fun Zc => va_runIN (As := []) (rest := [.ref q59, .int 8, .ref q1]) X (c_Stall_init l D q59 0 0 0 0 H.size) ⟨va_cnB 0 hts gX0_init_X4_init_n39 rfl rfl rfl (zz_nw Z.2.2.2.2.2 4 rfl) (hts _ (zz_m 15 rfl)) zh_X4_init ⟨Nat.le_of_ble_eq_true rfl, Nat.le_of_ble_eq_true rfl⟩, rfl, hts _ (zz_m 16 rfl)⟩ (zz_pS Zc) rfl rfl hl.1 rfl (lv_room (Nat.le_of_ble_eq_true rfl)) dX0_init_78 ⟨Nat.le_of_ble_eq_true rfl, Nat.le_of_ble_eq_true rfl⟩) rfl rfl (fun u60 H locs hw61 Z => ?_)
  have Z : zz_S D A s [(b, .inr (0, [.ref tx, .ref q1, .ref q3, .int 0, .int 0, .int 3, .int 0, .int 0, .int 10, .int 0, .int 0, .int 0, .int 0, .int 1])), (q1, .inl (k2, 9, .inr (.inr (.inr (.inr g57))))), (q3, .inl (k4, 3, .inl f9)), (q11, .inr (4, [.int 0, .int 0, .int 0, .int 0])), (q17, .inr (4, [.int 0, .int 0, .int 0, .int 0])), (q23, .inr (4, [.int 0, .int 0, .int 0, .int 0])), (q29, .inr (4, [.int 0, .int 0, .int 0, .int 0])), (q35, .inr (4, [.int 0, .int 0, .int 0, .int 0])), (q41, .inr (4, [.int 0, .int 0, .int 0, .int 0])), (q47, .inr (4, [.int 0, .int 0, .int 0, .int 0])), (q53, .inr (4, [.int 0, .int 0, .int 0, .int 0])), (q59, .inr (4, [.int 0, .int 0, .int 0, .int 0]))] [(k2, .object RX4), (k4, .int)] H locs := Z
  refine zz_astN (WS' := fun g63 => [(b, .inr (0, [.ref tx, .ref q1, .ref q3, .int 0, .int 0, .int 3, .int 0, .int 0, .int 10, .int 0, .int 0, .int 0, .int 0, .int 1])), (q1, .inl (k2, 9, .inr (.inr (.inr (.inr g63))))), (q3, .inl (k4, 3, .inl f9)), (q11, .inr (4, [.int 0, .int 0, .int 0, .int 0])), (q17, .inr (4, [.int 0, .int 0, .int 0, .int 0])), (q23, .inr (4, [.int 0, .int 0, .int 0, .int 0])), (q29, .inr (4, [.int 0, .int 0, .int 0, .int 0])), (q35, .inr (4, [.int 0, .int 0, .int 0, .int 0])), (q41, .inr (4, [.int 0, .int 0, .int 0, .int 0])), (q47, .inr (4, [.int 0, .int 0, .int 0, .int 0])), (q53, .inr (4, [.int 0, .int 0, .int 0, .int 0])), (q59, .inr (4, [.int 0, .int 0, .int 0, .int 0]))]) X Z 1 0 11 4 rfl rfl rfl rfl (zz_in 8 9 rfl) dX0_init_81 (fun _ => rfl) (fun g63 eg64 H locs Z => ?_)
  refine lv_iinc (v := 9) (lv' := [(2, .int 9), (0, .ref b), (1, .ref tx)]) hx hb dX0_init_82 hl (k := 0) rfl (by decide) (by decide) rfl (fun ls hl => ?_)
  refine lv_goto (tgt := 63) hx hb dX0_init_85 (by decide) ?_
  refine lv_iload_n hx hb dX0_init_63 rfl (lv_at hl 0 rfl) ?_
  refine lv_bipush (v := 9) hx hb dX0_init_64 (by decide) ?_
  refine lv_icmp_ge (tgt := 88) hx hb dX0_init_66 (by decide) (fun _ => ?_) (fun h => absurd (by decide) h)
  exact zz_vret X hr hlk Z (q1, k2, g63, q3, k4, f9, q11, q17, q23, q29, q35, q41, q47, q53, q59) ⟨⟨(by rw [eg64]; exact (by rw [eg58]; exact (by rw [eg52]; exact (by rw [eg46]; exact (by rw [eg40]; exact (by rw [eg34]; exact (by rw [eg28]; exact (by rw [eg22]; exact (by rw [eg16]; rfl))))))))), (by rw [eg64]; exact (by rw [eg58]; exact (by rw [eg52]; exact (by rw [eg46]; exact (by rw [eg40]; exact (by rw [eg34]; exact (by rw [eg28]; exact (by rw [eg22]; rfl)))))))), (by rw [eg64]; exact (by rw [eg58]; exact (by rw [eg52]; exact (by rw [eg46]; exact (by rw [eg40]; exact (by rw [eg34]; exact (by rw [eg28]; rfl))))))), (by rw [eg64]; exact (by rw [eg58]; exact (by rw [eg52]; exact (by rw [eg46]; exact (by rw [eg40]; exact (by rw [eg34]; rfl)))))), (by rw [eg64]; exact (by rw [eg58]; exact (by rw [eg52]; exact (by rw [eg46]; exact (by rw [eg40]; rfl))))), (by rw [eg64]; exact (by rw [eg58]; exact (by rw [eg52]; exact (by rw [eg46]; rfl)))), (by rw [eg64]; exact (by rw [eg58]; exact (by rw [eg52]; rfl))), (by rw [eg64]; exact (by rw [eg58]; rfl)), (by rw [eg64]; rfl), (by rw [ef10]; exact (by rw [ef8]; exact (by rw [ef6]; rfl))), (by rw [ef10]; exact (by rw [ef8]; rfl)), (by rw [ef10]; rfl)⟩, trivial⟩ [0, 1, 2, 3, 4, 5, 6, 7, 8, 9, 10, 11] [0, 1] rfl rfl rfl dX0_init_88
