set_option maxHeartbeats 4000000 in
set_option maxRecDepth 100000 in
theorem c_within (l : Launch) (D : va_G) (v : Int32) (lo : Int32) (hi : Int32)  : zz_MI l yX6_within wsX6_within 0 0 0 0 D [.int v, .int lo, .int hi] [] [] (fun (r : Int32) (u : Unit) => r = zz_wi v lo hi) (fun (u : Unit) => []) (fun (u : Unit) => []) := by
  intro sz
  refine Met.ofW (cc := cX6_within) (maxL := 3) (ret := (some .boolean)) (by decide) rfl ?_
  intro p e s m args below meth c s₁ B hml hv
  obtain ⟨rfl, hC⟩ := hv
  have hx := B.exec
  have hb := B.bytes
  have hr := B.returns
  have hts := atoms_spec (ws := wsX6_within) B.pre
  have hown : s.vm.findClass RX6 = some m.cls := findClass_of_methodNamed B.named
  have hlk := B.notSynchronized
  have X : CallFix p m c cX6_within 3 s _ wsX6_within RX6 := ⟨hx, hb, hml, hown, hts⟩
  have Z := zz_enter hC
  generalize va_A [] sz = A at Z ⊢
  have hl := lv_entry ([.int v, .int lo, .int hi]) (n := 3) (Nat.le_of_ble_eq_true rfl)
  rw [lg_entry_eq]
  generalize (lg_sl ([.int v, .int lo, .int hi]) ++ List.replicate (3 - (lg_sl ([.int v, .int lo, .int hi])).length) Slot.unset).toArray = ls at hl ⊢
  have hl : lv_has ls 3 [(0, .int v), (1, .int lo), (2, .int hi)] := hl
  refine lv_iload_n hx hb dX6_within_0 rfl (lv_at hl 0 rfl) ?_
  refine lv_iload_n hx hb dX6_within_1 rfl (lv_at hl 1 rfl) ?_
  refine lv_icmp_lt (tgt := 14) hx hb dX6_within_2 (by decide) (fun b1 => ?_) (fun b1 => ?_)
  · refine lv_iconst (v := 0) hx hb dX6_within_14 (by decide) ?_
    exact zz_zret X hr hlk Z (by decide) () (zz_wi0a b1) [] [] (by decide +kernel) rfl rfl dX6_within_15
  · refine lv_iload_n hx hb dX6_within_5 rfl (lv_at hl 0 rfl) ?_
    refine lv_iload_n hx hb dX6_within_6 rfl (lv_at hl 2 rfl) ?_
    refine lv_icmp_gt (tgt := 14) hx hb dX6_within_7 (by decide) (fun b2 => ?_) (fun b2 => ?_)
    · refine lv_iconst (v := 0) hx hb dX6_within_14 (by decide) ?_
      exact zz_zret X hr hlk Z (by decide) () (zz_wi0b b2) [] [] (by decide +kernel) rfl rfl dX6_within_15
    · refine lv_iconst (v := 1) hx hb dX6_within_10 (by decide) ?_
      refine lv_goto (tgt := 15) hx hb dX6_within_11 (by decide) ?_
      exact zz_zret X hr hlk Z (by decide) () (zz_wi1 b1 b2) [] [] (by decide +kernel) rfl rfl dX6_within_15

set_option maxHeartbeats 4000000 in
set_option maxRecDepth 100000 in
theorem c_held (l : Launch) (D : va_G) (v : Int32) (lo : Int32) (hi : Int32)  : zz_MI l yX6_held wsX6_held 1 24 0 0 D [.int v, .int lo, .int hi] [] [] (fun (r : Int32) (u : Unit) => r = zz_held v lo hi) (fun (u : Unit) => []) (fun (u : Unit) => []) := by
  intro sz
  refine Met.ofW (cc := cX6_held) (maxL := 3) (ret := (some .int)) (by decide) rfl ?_
  intro p e s m args below meth c s₁ B hml hv
  obtain ⟨rfl, hC⟩ := hv
  have hx := B.exec
  have hb := B.bytes
  have hr := B.returns
  have hts := atoms_spec (ws := wsX6_held) B.pre
  have hown : s.vm.findClass RX6 = some m.cls := findClass_of_methodNamed B.named
  have hlk := B.notSynchronized
  have X : CallFix p m c cX6_held 3 s _ wsX6_held RX6 := ⟨hx, hb, hml, hown, hts⟩
  have Z := zz_enter hC
  generalize va_A [] sz = A at Z ⊢
  have hl := lv_entry ([.int v, .int lo, .int hi]) (n := 3) (Nat.le_of_ble_eq_true rfl)
  rw [lg_entry_eq]
  generalize (lg_sl ([.int v, .int lo, .int hi]) ++ List.replicate (3 - (lg_sl ([.int v, .int lo, .int hi])).length) Slot.unset).toArray = ls at hl ⊢
  have hl : lv_has ls 3 [(0, .int v), (1, .int lo), (2, .int hi)] := hl
  refine lv_iload_n hx hb dX6_held_0 rfl (lv_at hl 1 rfl) ?_
  refine lv_iload_n hx hb dX6_held_1 rfl (lv_at hl 0 rfl) ?_
  refine lv_iload_n hx hb dX6_held_2 rfl (lv_at hl 2 rfl) ?_
  refine va_mmin hx hb (by rw [hml]; exact hl.1.symm) hown (hts _ (zz_m 1 rfl)) (hts _ (zz_m 2 rfl)) (hts _ (zz_m 3 rfl)) (hts _ (zz_m 4 rfl)) (Nat.le_of_ble_eq_true rfl) (Nat.le_of_ble_eq_true rfl) (Nat.le_of_ble_eq_true rfl) (Nat.le_of_ble_eq_true rfl) dX6_held_3 ?_
  refine va_mmax hx hb (by rw [hml]; exact hl.1.symm) hown (hts _ (zz_m 5 rfl)) (hts _ (zz_m 6 rfl)) (hts _ (zz_m 3 rfl)) (hts _ (zz_m 7 rfl)) (Nat.le_of_ble_eq_true rfl) (Nat.le_of_ble_eq_true rfl) (Nat.le_of_ble_eq_true rfl) (Nat.le_of_ble_eq_true rfl) dX6_held_6 ?_
  exact zz_iret X hr hlk Z () rfl [] [] (by decide +kernel) rfl rfl dX6_held_9

set_option maxHeartbeats 4000000 in
set_option maxRecDepth 100000 in
theorem c_draw (l : Launch) (D : va_G) (b : Nat) (tx : Nat) (st : Nat) (ct : Nat) (n : Int32) (tc : Int32) (w : Int32) (fi : Int32) (h : Int32) (g : Int32) (mo : Int32) (co : Int32) (sp : Int32) (to : Int32) (z : Int32)  : zz_MI l yX0_draw wsX0_draw 0 0 0 0 D [.ref b] [(b, .inr (0, [.ref tx, .ref st, .ref ct, .int n, .int tc, .int w, .int fi, .int h, .int g, .int mo, .int co, .int sp, .int to, .int z]))] [] (fun (r : Int32) (u : Unit) => r = zz_dr z) (fun (u : Unit) => [(b, .inr (0, [.ref tx, .ref st, .ref ct, .int n, .int tc, .int w, .int fi, .int h, .int g, .int mo, .int co, .int sp, .int to, .int (zz_nz z)]))]) (fun (u : Unit) => []) := by
  intro sz
  refine Met.ofW (cc := cX0_draw) (maxL := 1) (ret := (some .int)) (by decide) rfl ?_
  intro p e s m args below meth c s₁ B hml hv
  obtain ⟨rfl, hC⟩ := hv
  have hx := B.exec
  have hb := B.bytes
  have hr := B.returns
  have hts := atoms_spec (ws := wsX0_draw) B.pre
  have hown : s.vm.findClass RX0 = some m.cls := findClass_of_methodNamed B.named
  have hlk := B.notSynchronized
  have X : CallFix p m c cX0_draw 1 s _ wsX0_draw RX0 := ⟨hx, hb, hml, hown, hts⟩
  have Z := zz_enter hC
  generalize va_A [(b, .inr (0, [.ref tx, .ref st, .ref ct, .int n, .int tc, .int w, .int fi, .int h, .int g, .int mo, .int co, .int sp, .int to, .int z]))] sz = A at Z ⊢
  have hl := lv_entry ([.ref b]) (n := 1) (Nat.le_of_ble_eq_true rfl)
  rw [lg_entry_eq]
  generalize (lg_sl ([.ref b]) ++ List.replicate (1 - (lg_sl ([.ref b])).length) Slot.unset).toArray = ls at hl ⊢
  have hl : lv_has ls 1 [(0, .ref b)] := hl
  refine lv_aload_n hx hb dX0_draw_0 rfl (lv_at hl 0 rfl) ?_
  refine lv_aload_n hx hb dX0_draw_1 rfl (lv_at hl 0 rfl) ?_
  refine zz_get X Z 0 rfl rfl (fun w h => List.mem_cons_of_mem _ (List.mem_append_right _ h)) 13 rfl (zz_m 1 rfl) rfl dX0_draw_2 ?_
  refine lv_ldc (v := 1103515245) hx hb hown (hts _ (zz_m 2 rfl)) dX0_draw_5 ?_
  refine lv_imul hx hb dX0_draw_7 ?_
  refine lv_sipush (v := 12345) hx hb dX0_draw_8 (by decide) ?_
  refine lv_iadd hx hb dX0_draw_11 ?_
  refine zz_put (WS' := [(b, .inr (0, [.ref tx, .ref st, .ref ct, .int n, .int tc, .int w, .int fi, .int h, .int g, .int mo, .int co, .int sp, .int to, .int ((z * 1103515245) + 12345)]))]) X Z 0 rfl rfl (fun w h => List.mem_cons_of_mem _ (List.mem_append_right _ h)) tyX0 tyX0_ok nmX0 13 rfl (zz_m 1 rfl) rfl rfl rfl rfl dX0_draw_12 rfl (fun H1 locs2 Z3 => ?_)
  clear Z
  refine lv_aload_n hx hb dX0_draw_15 rfl (lv_at hl 0 rfl) ?_
  refine zz_get X Z3 0 rfl rfl (fun w h => List.mem_cons_of_mem _ (List.mem_append_right _ h)) 13 rfl (zz_m 1 rfl) rfl dX0_draw_16 ?_
  refine lv_bipush (v := 8) hx hb dX0_draw_19 (by decide) ?_
  refine lv_iushr (v := (Int32.toUInt32 ((z * 1103515245) + 12345) >>> (Int32.toUInt32 8 &&& Int32.toUInt32 31)).toInt32) hx hb dX0_draw_21 rfl ?_
  exact zz_iret X hr hlk Z3 () rfl [0] [] (by decide +kernel) rfl rfl dX0_draw_22

set_option maxHeartbeats 4000000 in
set_option maxRecDepth 100000 in
theorem c_lastFirst (l : Launch) (D : va_G) (b : Nat) (tx : Nat) (st : Nat) (ct : Nat) (n : Int32) (tc : Int32) (w : Int32) (fi : Int32) (h : Int32) (g : Int32) (mo : Int32) (co : Int32) (sp : Int32) (to : Int32) (z : Int32)  : zz_MI l yX0_lastFirst wsX0_lastFirst 0 0 0 0 D [.ref b] [(b, .inr (0, [.ref tx, .ref st, .ref ct, .int n, .int tc, .int w, .int fi, .int h, .int g, .int mo, .int co, .int sp, .int to, .int z]))] [] (fun (r : Int32) (u : Unit) => r = 12 - w) (fun (u : Unit) => [(b, .inr (0, [.ref tx, .ref st, .ref ct, .int n, .int tc, .int w, .int fi, .int h, .int g, .int mo, .int co, .int sp, .int to, .int z]))]) (fun (u : Unit) => []) := by
  intro sz
  refine Met.ofW (cc := cX0_lastFirst) (maxL := 1) (ret := (some .int)) (by decide) rfl ?_
  intro p e s m args below meth c s₁ B hml hv
  obtain ⟨rfl, hC⟩ := hv
  have hx := B.exec
  have hb := B.bytes
  have hr := B.returns
  have hts := atoms_spec (ws := wsX0_lastFirst) B.pre
  have hown : s.vm.findClass RX0 = some m.cls := findClass_of_methodNamed B.named
  have hlk := B.notSynchronized
  have X : CallFix p m c cX0_lastFirst 1 s _ wsX0_lastFirst RX0 := ⟨hx, hb, hml, hown, hts⟩
  have Z := zz_enter hC
  generalize va_A [(b, .inr (0, [.ref tx, .ref st, .ref ct, .int n, .int tc, .int w, .int fi, .int h, .int g, .int mo, .int co, .int sp, .int to, .int z]))] sz = A at Z ⊢
  have hl := lv_entry ([.ref b]) (n := 1) (Nat.le_of_ble_eq_true rfl)
  rw [lg_entry_eq]
  generalize (lg_sl ([.ref b]) ++ List.replicate (1 - (lg_sl ([.ref b])).length) Slot.unset).toArray = ls at hl ⊢
  have hl : lv_has ls 1 [(0, .ref b)] := hl
  refine lv_bipush (v := 12) hx hb dX0_lastFirst_0 (by decide) ?_
  refine lv_aload_n hx hb dX0_lastFirst_2 rfl (lv_at hl 0 rfl) ?_
  refine zz_get X Z 0 rfl rfl (fun w h => List.mem_cons_of_mem _ (List.mem_append_right _ h)) 5 rfl (zz_m 1 rfl) rfl dX0_lastFirst_3 ?_
  refine lv_isub hx hb dX0_lastFirst_6 ?_
  exact zz_iret X hr hlk Z () rfl [0] [] (by decide +kernel) rfl rfl dX0_lastFirst_7

set_option maxHeartbeats 4000000 in
set_option maxRecDepth 100000 in
theorem c_hauled0 (l : Launch) (D : va_G) (b : Nat) (tx : Nat) (st : Nat) (ct : Nat) (n : Int32) (tc : Int32) (w : Int32) (fi : Int32) (h : Int32) (g : Int32) (mo : Int32) (co : Int32) (sp : Int32) (to : Int32) (z : Int32)  : zz_MI l yX0_hauledTo wsX0_hauledTo 0 0 0 0 D [.ref b, .int 0] [(b, .inr (0, [.ref tx, .ref st, .ref ct, .int n, .int tc, .int w, .int fi, .int h, .int g, .int mo, .int co, .int sp, .int to, .int z]))] [] (fun (r : Int32) (u : Unit) => r = fi) (fun (u : Unit) => [(b, .inr (0, [.ref tx, .ref st, .ref ct, .int n, .int tc, .int w, .int fi, .int h, .int g, .int mo, .int co, .int sp, .int to, .int z]))]) (fun (u : Unit) => []) := by
  intro sz
  refine Met.ofW (cc := cX0_hauledTo) (maxL := 2) (ret := (some .int)) (by decide) rfl ?_
  intro p e s m args below meth c s₁ B hml hv
  obtain ⟨rfl, hC⟩ := hv
  have hx := B.exec
  have hb := B.bytes
  have hr := B.returns
  have hts := atoms_spec (ws := wsX0_hauledTo) B.pre
  have hown : s.vm.findClass RX0 = some m.cls := findClass_of_methodNamed B.named
  have hlk := B.notSynchronized
  have X : CallFix p m c cX0_hauledTo 2 s _ wsX0_hauledTo RX0 := ⟨hx, hb, hml, hown, hts⟩
  have Z := zz_enter hC
  generalize va_A [(b, .inr (0, [.ref tx, .ref st, .ref ct, .int n, .int tc, .int w, .int fi, .int h, .int g, .int mo, .int co, .int sp, .int to, .int z]))] sz = A at Z ⊢
  have hl := lv_entry ([.ref b, .int 0]) (n := 2) (Nat.le_of_ble_eq_true rfl)
  rw [lg_entry_eq]
  generalize (lg_sl ([.ref b, .int 0]) ++ List.replicate (2 - (lg_sl ([.ref b, .int 0])).length) Slot.unset).toArray = ls at hl ⊢
  have hl : lv_has ls 2 [(0, .ref b), (1, .int 0)] := hl
  refine lv_iload_n hx hb dX0_hauledTo_0 rfl (lv_at hl 1 rfl) ?_
  refine lv_lookup (x := 0) (off := 52) (tgt := 53) hx hb dX0_hauledTo_1 (by decide) (by decide) (by decide) ?_
  refine lv_aload_n hx hb dX0_hauledTo_53 rfl (lv_at hl 0 rfl) ?_
  refine zz_get X Z 0 rfl rfl (fun w h => List.mem_cons_of_mem _ (List.mem_append_right _ h)) 6 rfl (zz_m 1 rfl) rfl dX0_hauledTo_54 ?_
  exact zz_iret X hr hlk Z () rfl [0] [] (by decide +kernel) rfl rfl dX0_hauledTo_57

set_option maxHeartbeats 4000000 in
set_option maxRecDepth 100000 in
theorem c_hauled1 (l : Launch) (D : va_G) (b : Nat) (tx : Nat) (st : Nat) (ct : Nat) (n : Int32) (tc : Int32) (w : Int32) (fi : Int32) (h : Int32) (g : Int32) (mo : Int32) (co : Int32) (sp : Int32) (to : Int32) (z : Int32)  : zz_MI l yX0_hauledTo wsX0_hauledTo 1 24 0 0 D [.ref b, .int 1] [(b, .inr (0, [.ref tx, .ref st, .ref ct, .int n, .int tc, .int w, .int fi, .int h, .int g, .int mo, .int co, .int sp, .int to, .int z]))] [] (fun (r : Int32) (u : Unit) => r = if fi - 1 < 0 then 0 else fi - 1) (fun (u : Unit) => [(b, .inr (0, [.ref tx, .ref st, .ref ct, .int n, .int tc, .int w, .int fi, .int h, .int g, .int mo, .int co, .int sp, .int to, .int z]))]) (fun (u : Unit) => []) := by
  intro sz
  refine Met.ofW (cc := cX0_hauledTo) (maxL := 2) (ret := (some .int)) (by decide) rfl ?_
  intro p e s m args below meth c s₁ B hml hv
  obtain ⟨rfl, hC⟩ := hv
  have hx := B.exec
  have hb := B.bytes
  have hr := B.returns
  have hts := atoms_spec (ws := wsX0_hauledTo) B.pre
  have hown : s.vm.findClass RX0 = some m.cls := findClass_of_methodNamed B.named
  have hlk := B.notSynchronized
  have X : CallFix p m c cX0_hauledTo 2 s _ wsX0_hauledTo RX0 := ⟨hx, hb, hml, hown, hts⟩
  have Z := zz_enter hC
  generalize va_A [(b, .inr (0, [.ref tx, .ref st, .ref ct, .int n, .int tc, .int w, .int fi, .int h, .int g, .int mo, .int co, .int sp, .int to, .int z]))] sz = A at Z ⊢
  have hl := lv_entry ([.ref b, .int 1]) (n := 2) (Nat.le_of_ble_eq_true rfl)
  rw [lg_entry_eq]
  generalize (lg_sl ([.ref b, .int 1]) ++ List.replicate (2 - (lg_sl ([.ref b, .int 1])).length) Slot.unset).toArray = ls at hl ⊢
  have hl : lv_has ls 2 [(0, .ref b), (1, .int 1)] := hl
  refine lv_iload_n hx hb dX0_hauledTo_0 rfl (lv_at hl 1 rfl) ?_
  refine lv_lookup (x := 1) (off := 27) (tgt := 28) hx hb dX0_hauledTo_1 (by decide) (by decide) (by decide) ?_
  refine lv_aload_n hx hb dX0_hauledTo_28 rfl (lv_at hl 0 rfl) ?_
  refine zz_get X Z 0 rfl rfl (fun w h => List.mem_cons_of_mem _ (List.mem_append_right _ h)) 6 rfl (zz_m 1 rfl) rfl dX0_hauledTo_29 ?_
  refine lv_iconst (v := 1) hx hb dX0_hauledTo_32 (by decide) ?_
  refine lv_isub hx hb dX0_hauledTo_33 ?_
  refine lv_iconst (v := 0) hx hb dX0_hauledTo_34 (by decide) ?_
  refine va_mmax hx hb (by rw [hml]; exact hl.1.symm) hown (hts _ (zz_m 2 rfl)) (hts _ (zz_m 3 rfl)) (hts _ (zz_m 4 rfl)) (hts _ (zz_m 5 rfl)) (Nat.le_of_ble_eq_true rfl) (Nat.le_of_ble_eq_true rfl) (Nat.le_of_ble_eq_true rfl) (Nat.le_of_ble_eq_true rfl) dX0_hauledTo_35 ?_
  exact zz_iret X hr hlk Z () rfl [0] [] (by decide +kernel) rfl rfl dX0_hauledTo_38

set_option maxHeartbeats 4000000 in
set_option maxRecDepth 100000 in
theorem c_hauled2 (l : Launch) (D : va_G) (b : Nat) (tx : Nat) (st : Nat) (ct : Nat) (n : Int32) (tc : Int32) (w : Int32) (fi : Int32) (h : Int32) (g : Int32) (mo : Int32) (co : Int32) (sp : Int32) (to : Int32) (z : Int32)  : zz_MI l yX0_hauledTo wsX0_hauledTo 1 24 0 0 D [.ref b, .int 2] [(b, .inr (0, [.ref tx, .ref st, .ref ct, .int n, .int tc, .int w, .int fi, .int h, .int g, .int mo, .int co, .int sp, .int to, .int z]))] [] (fun (r : Int32) (u : Unit) => r = if 12 - w < fi + 1 then 12 - w else fi + 1) (fun (u : Unit) => [(b, .inr (0, [.ref tx, .ref st, .ref ct, .int n, .int tc, .int w, .int fi, .int h, .int g, .int mo, .int co, .int sp, .int to, .int z]))]) (fun (u : Unit) => []) := by
  intro sz
  refine Met.ofW (cc := cX0_hauledTo) (maxL := 2) (ret := (some .int)) (by decide) rfl ?_
  intro p e s m args below meth c s₁ B hml hv
  obtain ⟨rfl, hC⟩ := hv
  have hx := B.exec
  have hb := B.bytes
  have hr := B.returns
  have hts := atoms_spec (ws := wsX0_hauledTo) B.pre
  have hown : s.vm.findClass RX0 = some m.cls := findClass_of_methodNamed B.named
  have hlk := B.notSynchronized
  have X : CallFix p m c cX0_hauledTo 2 s _ wsX0_hauledTo RX0 := ⟨hx, hb, hml, hown, hts⟩
  have Z := zz_enter hC
  generalize va_A [(b, .inr (0, [.ref tx, .ref st, .ref ct, .int n, .int tc, .int w, .int fi, .int h, .int g, .int mo, .int co, .int sp, .int to, .int z]))] sz = A at Z ⊢
  have hl := lv_entry ([.ref b, .int 2]) (n := 2) (Nat.le_of_ble_eq_true rfl)
  rw [lg_entry_eq]
  generalize (lg_sl ([.ref b, .int 2]) ++ List.replicate (2 - (lg_sl ([.ref b, .int 2])).length) Slot.unset).toArray = ls at hl ⊢
  have hl : lv_has ls 2 [(0, .ref b), (1, .int 2)] := hl
  refine lv_iload_n hx hb dX0_hauledTo_0 rfl (lv_at hl 1 rfl) ?_
  refine lv_lookup (x := 2) (off := 38) (tgt := 39) hx hb dX0_hauledTo_1 (by decide) (by decide) (by decide) ?_
  refine lv_aload_n hx hb dX0_hauledTo_39 rfl (lv_at hl 0 rfl) ?_
  refine zz_get X Z 0 rfl rfl (fun w h => List.mem_cons_of_mem _ (List.mem_append_right _ h)) 6 rfl (zz_m 1 rfl) rfl dX0_hauledTo_40 ?_
  refine lv_iconst (v := 1) hx hb dX0_hauledTo_43 (by decide) ?_
  refine lv_iadd hx hb dX0_hauledTo_44 ?_
  refine lv_aload_n hx hb dX0_hauledTo_45 rfl (lv_at hl 0 rfl) ?_
  refine zz_ci (WC := [(b, .inr (0, [.ref tx, .ref st, .ref ct, .int n, .int tc, .int w, .int fi, .int h, .int g, .int mo, .int co, .int sp, .int to, .int z]))]) (TC := []) (WR := []) (TR := []) (k := 0) (n := 0) Z [0] [] [] [] rfl rfl (by decide +kernel) (by decide +kernel) (by decide +kernel) rfl rfl (fun Zc => va_runV (As := []) (rest := [.int (fi + 1)]) X (c_lastFirst l D b tx st ct n tc w fi h g mo co sp to z s.heap.size) (cwV 0 hts gX0_hauledTo_X0_lastFirst rfl rfl rfl ⟨rfl, zh_X0_lastFirst⟩ ⟨Nat.le_of_ble_eq_true rfl, Nat.le_of_ble_eq_true rfl⟩) (zz_pV (ci := 0) Zc 0 rfl rfl) rfl rfl hl.1 rfl (lv_room (Nat.le_of_ble_eq_true rfl)) dX0_hauledTo_46 ⟨Nat.le_of_ble_eq_true rfl, Nat.le_of_ble_eq_true rfl⟩) rfl rfl (fun r3 u1 H1 locs2 hw2 Z3 => ?_)
  clear Z
  subst r3
  have Z4 : zz_S D A s [(b, .inr (0, [.ref tx, .ref st, .ref ct, .int n, .int tc, .int w, .int fi, .int h, .int g, .int mo, .int co, .int sp, .int to, .int z]))] [] H1 locs2 := Z3
  clear Z3
  refine va_mmin hx hb (by rw [hml]; exact hl.1.symm) hown (hts _ (zz_m 6 rfl)) (hts _ (zz_m 7 rfl)) (hts _ (zz_m 4 rfl)) (hts _ (zz_m 8 rfl)) (Nat.le_of_ble_eq_true rfl) (Nat.le_of_ble_eq_true rfl) (Nat.le_of_ble_eq_true rfl) (Nat.le_of_ble_eq_true rfl) dX0_hauledTo_49 ?_
  exact zz_iret X hr hlk Z4 () rfl [0] [] (by decide +kernel) rfl rfl dX0_hauledTo_52

set_option maxHeartbeats 4000000 in
set_option maxRecDepth 100000 in
theorem c_hauling (l : Launch) (D : va_G) (b : Nat) (tx : Nat) (st : Nat) (ct : Nat) (n : Int32) (tc : Int32) (w : Int32) (fi : Int32) (h : Int32) (g : Int32) (co : Int32) (sp : Int32) (to : Int32) (z : Int32)  : zz_MI l yX0_hauling wsX0_hauling 0 0 0 0 D [.ref b] [(b, .inr (0, [.ref tx, .ref st, .ref ct, .int n, .int tc, .int w, .int fi, .int h, .int g, .int 0, .int co, .int sp, .int to, .int z]))] [] (fun (r : Int32) (u : Unit) => r = 0) (fun (u : Unit) => [(b, .inr (0, [.ref tx, .ref st, .ref ct, .int n, .int tc, .int w, .int fi, .int h, .int g, .int 0, .int co, .int sp, .int to, .int z]))]) (fun (u : Unit) => []) := by
  intro sz
  refine Met.ofW (cc := cX0_hauling) (maxL := 1) (ret := (some .int)) (by decide) rfl ?_
  intro p e s m args below meth c s₁ B hml hv
  obtain ⟨rfl, hC⟩ := hv
  have hx := B.exec
  have hb := B.bytes
  have hr := B.returns
  have hts := atoms_spec (ws := wsX0_hauling) B.pre
  have hown : s.vm.findClass RX0 = some m.cls := findClass_of_methodNamed B.named
  have hlk := B.notSynchronized
  have X : CallFix p m c cX0_hauling 1 s _ wsX0_hauling RX0 := ⟨hx, hb, hml, hown, hts⟩
  have Z := zz_enter hC
  generalize va_A [(b, .inr (0, [.ref tx, .ref st, .ref ct, .int n, .int tc, .int w, .int fi, .int h, .int g, .int 0, .int co, .int sp, .int to, .int z]))] sz = A at Z ⊢
  have hl := lv_entry ([.ref b]) (n := 1) (Nat.le_of_ble_eq_true rfl)
  rw [lg_entry_eq]
  generalize (lg_sl ([.ref b]) ++ List.replicate (1 - (lg_sl ([.ref b])).length) Slot.unset).toArray = ls at hl ⊢
  have hl : lv_has ls 1 [(0, .ref b)] := hl
  refine lv_aload_n hx hb dX0_hauling_0 rfl (lv_at hl 0 rfl) ?_
  refine zz_get X Z 0 rfl rfl (fun w h => List.mem_cons_of_mem _ (List.mem_append_left _ (List.mem_append_left _ (List.mem_append_right _ h)))) 9 rfl (zz_m 1 rfl) rfl dX0_hauling_1 ?_
  refine lv_lookup (x := 0) (off := 38) (tgt := 42) hx hb dX0_hauling_4 (by decide) (by decide) (by decide) ?_
  refine lv_iconst (v := 0) hx hb dX0_hauling_42 (by decide) ?_
  exact zz_iret X hr hlk Z () rfl [0] [] (by decide +kernel) rfl rfl dX0_hauling_43
