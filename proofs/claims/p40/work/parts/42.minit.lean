set_option maxHeartbeats 4000000 in
set_option maxRecDepth 100000 in
theorem c_Model_init (l : Launch) (D : va_G) (V : zz_V) (mo : Nat)  : zz_MV l yX7_init wsX7_init 1 20 18 9900 D V [.ref mo] [(mo, .inr (7, [.null, .null, .null, .int 0, .null, .null, .null, .null, .null, .null, .null, .null, .null, .null, .int 0, .int 0, .int 0, .int 0, .int 0, .int 0, .int 0, .int 0, .int 0, .int 0, .int 0, .null, .null, .null, .null, .int 0, .null]))] [] (fun (u : (Nat → Nat) × (Nat → ClassId) × (Nat → Nat → Int32)) => match u with | (ad, kd, fd) => (fd 1 0 = 0 ∧ fd 1 1 = 0 ∧ fd 1 2 = 0 ∧ fd 1 3 = 0 ∧ fd 1 4 = 0 ∧ fd 1 5 = 0 ∧ fd 1 6 = 1 ∧ fd 1 7 = 0 ∧ fd 1 8 = 3 ∧ fd 1 9 = 10 ∧ fd 1 10 = 0 ∧ fd 1 11 = 0 ∧ fd 4 0 = (-1) ∧ fd 4 1 = (-1) ∧ fd 4 2 = (-1) ∧ fd 4 3 = (-1)) ∧ (ad 0 = mo)) (fun (u : (Nat → Nat) × (Nat → ClassId) × (Nat → Nat → Int32)) => match u with | (ad, kd, fd) => [(mo, .inr (7, [.ref (ad 1), .ref (ad 2), .ref (ad 3), .int 0, .ref (ad 4), .ref (ad 5), .ref (ad 6), .ref (ad 7), .ref (ad 8), .ref (ad 9), .ref (ad 10), .ref (ad 11), .ref (ad 12), .ref (ad 13), .int 0, .int 0, .int 0, .int 0, .int 0, .int 0, .int 0, .int 0, .int 0, .int 0, .int 0, .ref (ad 14), .ref (ad 15), .ref (ad 16), .ref (ad 17), .int 0, .ref (ad 18)])), (ad 1, .inl (kd 1, 3047, .inl (fd 1))), (ad 2, .inl (kd 2, 3047, .inl (fun _ => 0))), (ad 3, .inl (kd 3, 3047, .inl (fun _ => 0))), (ad 4, .inl (kd 4, 4, .inl (fd 4))), (ad 5, .inl (kd 5, 4, .inl (fun _ => 0))), (ad 6, .inl (kd 6, 96, .inl (fun _ => 0))), (ad 7, .inl (kd 7, 5, .inl (fun _ => 0))), (ad 8, .inl (kd 8, 5, .inl (fun _ => 0))), (ad 9, .inl (kd 9, 5, .inl (fun _ => 0))), (ad 10, .inl (kd 10, 5, .inl (fun _ => 0))), (ad 11, .inl (kd 11, 120, .inl (fun _ => 0))), (ad 12, .inl (kd 12, 47, .inl (fun _ => 0))), (ad 13, .inl (kd 13, 96, .inl (fun _ => 0))), (ad 14, .inl (kd 14, 128, .inl (fun _ => 0))), (ad 15, .inl (kd 15, 100, .inl (fun _ => 0))), (ad 16, .inl (kd 16, 24, .inl (fun _ => 0))), (ad 17, .inl (kd 17, 60, .inl (fun _ => 0))), (ad 18, .inl (kd 18, 60, .inl (fun _ => 0)))]) (fun (u : (Nat → Nat) × (Nat → ClassId) × (Nat → Nat → Int32)) => match u with | (ad, kd, fd) => [(kd 1, .int), (kd 2, .int), (kd 3, .int), (kd 4, .int), (kd 5, .int), (kd 6, .int), (kd 7, .int), (kd 8, .int), (kd 9, .int), (kd 10, .int), (kd 11, .int), (kd 12, .int), (kd 13, .int), (kd 14, .int), (kd 15, .int), (kd 16, .int), (kd 17, .int), (kd 18, .int)]) := by
  intro sz
  refine Met.ofW (cc := cX7_init) (maxL := 2) (ret := none) (by decide) rfl ?_
  intro p e s m args below meth c s₁ B hml hv
  obtain ⟨rfl, hC⟩ := hv
  have hx := B.exec
  have hb := B.bytes
  have hr := B.returns
  have hts := atoms_spec (ws := wsX7_init) B.pre
  have hown : s.vm.findClass RX7 = some m.cls := findClass_of_methodNamed B.named
  have hlk := B.notSynchronized
  have hini : meth.name = "<init>" := (name_of_methodNamed B.named B.method).1
  have X : CallFix p m c cX7_init 2 s _ wsX7_init RX7 := ⟨hx, hb, hml, hown, hts⟩
  have Z := zz_enter hC
  generalize va_A [(mo, .inr (7, [.null, .null, .null, .int 0, .null, .null, .null, .null, .null, .null, .null, .null, .null, .null, .int 0, .int 0, .int 0, .int 0, .int 0, .int 0, .int 0, .int 0, .int 0, .int 0, .int 0, .null, .null, .null, .null, .int 0, .null]))] sz = A at Z ⊢
  have hl := lv_entry ([.ref mo]) (n := 2) (Nat.le_of_ble_eq_true rfl)
  rw [lg_entry_eq]
  generalize (lg_sl ([.ref mo]) ++ List.replicate (2 - (lg_sl ([.ref mo])).length) Slot.unset).toArray = ls at hl ⊢
  have hl : lv_has ls 2 [(0, .ref mo)] := hl
  refine lv_aload_n hx hb dX7_init_0 rfl (lv_at hl 0 rfl) ?_
  refine W.objInit hx hb hown (hts _ (zz_m 1 rfl)) (hts _ (zz_m 2 rfl)) (hts _ (zz_m 3 rfl)) rfl (by rw [hml]; exact hl.1) rfl dX7_init_1 (Nat.le_of_ble_eq_true rfl) (Nat.le_of_ble_eq_true rfl) ?_
  refine W.eq (g2 := F0 m 4 ls []) rfl ?_
  refine lv_aload_n hx hb dX7_init_4 rfl (lv_at hl 0 rfl) ?_
  refine lv_sipush (v := 3047) hx hb dX7_init_5 (by decide) ?_
  refine zz_newi (k := 1) (n := 3047) (N' := 3047) X Z (zz_m 4 rfl) (by decide) (by decide) rfl rfl rfl rfl rfl dX7_init_8 (fun q1 k2 H1 Z2 => ?_)
  clear Z
  have Z3 : zz_S D V A s [(mo, .inr (7, [.null, .null, .null, .int 0, .null, .null, .null, .null, .null, .null, .null, .null, .null, .null, .int 0, .int 0, .int 0, .int 0, .int 0, .int 0, .int 0, .int 0, .int 0, .int 0, .int 0, .null, .null, .null, .null, .int 0, .null])), (q1, .inl (k2, 3047, .inl (fun _ => 0)))] [(k2, .int)] H1 _ := Z2
  clear Z2
  refine zz_putF (WS' := [(mo, .inr (7, [.ref q1, .null, .null, .int 0, .null, .null, .null, .null, .null, .null, .null, .null, .null, .null, .int 0, .int 0, .int 0, .int 0, .int 0, .int 0, .int 0, .int 0, .int 0, .int 0, .int 0, .null, .null, .null, .null, .int 0, .null])), (q1, .inl (k2, 3047, .inl (fun _ => 0)))]) X Z3 0 rfl rfl (fun w h => List.mem_cons_of_mem _ (List.mem_append_right _ h)) tyX7 tyX7_ok nmX7 0 rfl (zz_m 5 rfl) rfl hini rfl rfl rfl rfl dX7_init_10 rfl (fun H4 locs5 Z6 => ?_)
  clear Z3
  refine lv_aload_n hx hb dX7_init_13 rfl (lv_at hl 0 rfl) ?_
  refine lv_sipush (v := 3047) hx hb dX7_init_14 (by decide) ?_
  refine zz_newi (k := 2) (n := 6094) (N' := 3047) X Z6 (zz_m 4 rfl) (by decide) (by decide) rfl rfl rfl rfl rfl dX7_init_17 (fun q3 k4 H7 Z8 => ?_)
  clear Z6
  have Z9 : zz_S D V A s [(mo, .inr (7, [.ref q1, .null, .null, .int 0, .null, .null, .null, .null, .null, .null, .null, .null, .null, .null, .int 0, .int 0, .int 0, .int 0, .int 0, .int 0, .int 0, .int 0, .int 0, .int 0, .int 0, .null, .null, .null, .null, .int 0, .null])), (q1, .inl (k2, 3047, .inl (fun _ => 0))), (q3, .inl (k4, 3047, .inl (fun _ => 0)))] [(k2, .int), (k4, .int)] H7 _ := Z8
  clear Z8
  refine zz_putF (WS' := [(mo, .inr (7, [.ref q1, .ref q3, .null, .int 0, .null, .null, .null, .null, .null, .null, .null, .null, .null, .null, .int 0, .int 0, .int 0, .int 0, .int 0, .int 0, .int 0, .int 0, .int 0, .int 0, .int 0, .null, .null, .null, .null, .int 0, .null])), (q1, .inl (k2, 3047, .inl (fun _ => 0))), (q3, .inl (k4, 3047, .inl (fun _ => 0)))]) X Z9 0 rfl rfl (fun w h => List.mem_cons_of_mem _ (List.mem_append_right _ h)) tyX7 tyX7_ok nmX7 1 rfl (zz_m 6 rfl) rfl hini rfl rfl rfl rfl dX7_init_19 rfl (fun H10 locs11 Z12 => ?_)
  clear Z9
  refine lv_aload_n hx hb dX7_init_22 rfl (lv_at hl 0 rfl) ?_
  refine lv_sipush (v := 3047) hx hb dX7_init_23 (by decide) ?_
  refine zz_newi (k := 3) (n := 9141) (N' := 3047) X Z12 (zz_m 4 rfl) (by decide) (by decide) rfl rfl rfl rfl rfl dX7_init_26 (fun q5 k6 H13 Z14 => ?_)
  clear Z12
  have Z15 : zz_S D V A s [(mo, .inr (7, [.ref q1, .ref q3, .null, .int 0, .null, .null, .null, .null, .null, .null, .null, .null, .null, .null, .int 0, .int 0, .int 0, .int 0, .int 0, .int 0, .int 0, .int 0, .int 0, .int 0, .int 0, .null, .null, .null, .null, .int 0, .null])), (q1, .inl (k2, 3047, .inl (fun _ => 0))), (q3, .inl (k4, 3047, .inl (fun _ => 0))), (q5, .inl (k6, 3047, .inl (fun _ => 0)))] [(k2, .int), (k4, .int), (k6, .int)] H13 _ := Z14
  clear Z14
  refine zz_putF (WS' := [(mo, .inr (7, [.ref q1, .ref q3, .ref q5, .int 0, .null, .null, .null, .null, .null, .null, .null, .null, .null, .null, .int 0, .int 0, .int 0, .int 0, .int 0, .int 0, .int 0, .int 0, .int 0, .int 0, .int 0, .null, .null, .null, .null, .int 0, .null])), (q1, .inl (k2, 3047, .inl (fun _ => 0))), (q3, .inl (k4, 3047, .inl (fun _ => 0))), (q5, .inl (k6, 3047, .inl (fun _ => 0)))]) X Z15 0 rfl rfl (fun w h => List.mem_cons_of_mem _ (List.mem_append_right _ h)) tyX7 tyX7_ok nmX7 2 rfl (zz_m 7 rfl) rfl hini rfl rfl rfl rfl dX7_init_28 rfl (fun H16 locs17 Z18 => ?_)
  clear Z15
  refine lv_aload_n hx hb dX7_init_31 rfl (lv_at hl 0 rfl) ?_
  refine lv_iconst (v := 4) hx hb dX7_init_32 (by decide) ?_
  refine zz_newi (k := 4) (n := 9145) (N' := 4) X Z18 (zz_m 4 rfl) (by decide) (by decide) rfl rfl rfl rfl rfl dX7_init_33 (fun q7 k8 H19 Z20 => ?_)
  clear Z18
  have Z21 : zz_S D V A s [(mo, .inr (7, [.ref q1, .ref q3, .ref q5, .int 0, .null, .null, .null, .null, .null, .null, .null, .null, .null, .null, .int 0, .int 0, .int 0, .int 0, .int 0, .int 0, .int 0, .int 0, .int 0, .int 0, .int 0, .null, .null, .null, .null, .int 0, .null])), (q1, .inl (k2, 3047, .inl (fun _ => 0))), (q3, .inl (k4, 3047, .inl (fun _ => 0))), (q5, .inl (k6, 3047, .inl (fun _ => 0))), (q7, .inl (k8, 4, .inl (fun _ => 0)))] [(k2, .int), (k4, .int), (k6, .int), (k8, .int)] H19 _ := Z20
  clear Z20
  refine zz_putF (WS' := [(mo, .inr (7, [.ref q1, .ref q3, .ref q5, .int 0, .ref q7, .null, .null, .null, .null, .null, .null, .null, .null, .null, .int 0, .int 0, .int 0, .int 0, .int 0, .int 0, .int 0, .int 0, .int 0, .int 0, .int 0, .null, .null, .null, .null, .int 0, .null])), (q1, .inl (k2, 3047, .inl (fun _ => 0))), (q3, .inl (k4, 3047, .inl (fun _ => 0))), (q5, .inl (k6, 3047, .inl (fun _ => 0))), (q7, .inl (k8, 4, .inl (fun _ => 0)))]) X Z21 0 rfl rfl (fun w h => List.mem_cons_of_mem _ (List.mem_append_right _ h)) tyX7 tyX7_ok nmX7 4 rfl (zz_m 8 rfl) rfl hini rfl rfl rfl rfl dX7_init_35 rfl (fun H22 locs23 Z24 => ?_)
  clear Z21
  refine lv_aload_n hx hb dX7_init_38 rfl (lv_at hl 0 rfl) ?_
  refine lv_iconst (v := 4) hx hb dX7_init_39 (by decide) ?_
  refine zz_newi (k := 5) (n := 9149) (N' := 4) X Z24 (zz_m 4 rfl) (by decide) (by decide) rfl rfl rfl rfl rfl dX7_init_40 (fun q9 k10 H25 Z26 => ?_)
  clear Z24
  have Z27 : zz_S D V A s [(mo, .inr (7, [.ref q1, .ref q3, .ref q5, .int 0, .ref q7, .null, .null, .null, .null, .null, .null, .null, .null, .null, .int 0, .int 0, .int 0, .int 0, .int 0, .int 0, .int 0, .int 0, .int 0, .int 0, .int 0, .null, .null, .null, .null, .int 0, .null])), (q1, .inl (k2, 3047, .inl (fun _ => 0))), (q3, .inl (k4, 3047, .inl (fun _ => 0))), (q5, .inl (k6, 3047, .inl (fun _ => 0))), (q7, .inl (k8, 4, .inl (fun _ => 0))), (q9, .inl (k10, 4, .inl (fun _ => 0)))] [(k2, .int), (k4, .int), (k6, .int), (k8, .int), (k10, .int)] H25 _ := Z26
  clear Z26
  refine zz_putF (WS' := [(mo, .inr (7, [.ref q1, .ref q3, .ref q5, .int 0, .ref q7, .ref q9, .null, .null, .null, .null, .null, .null, .null, .null, .int 0, .int 0, .int 0, .int 0, .int 0, .int 0, .int 0, .int 0, .int 0, .int 0, .int 0, .null, .null, .null, .null, .int 0, .null])), (q1, .inl (k2, 3047, .inl (fun _ => 0))), (q3, .inl (k4, 3047, .inl (fun _ => 0))), (q5, .inl (k6, 3047, .inl (fun _ => 0))), (q7, .inl (k8, 4, .inl (fun _ => 0))), (q9, .inl (k10, 4, .inl (fun _ => 0)))]) X Z27 0 rfl rfl (fun w h => List.mem_cons_of_mem _ (List.mem_append_right _ h)) tyX7 tyX7_ok nmX7 5 rfl (zz_m 9 rfl) rfl hini rfl rfl rfl rfl dX7_init_42 rfl (fun H28 locs29 Z30 => ?_)
  clear Z27
  refine lv_aload_n hx hb dX7_init_45 rfl (lv_at hl 0 rfl) ?_
  refine lv_bipush (v := 96) hx hb dX7_init_46 (by decide) ?_
  refine zz_newi (k := 6) (n := 9245) (N' := 96) X Z30 (zz_m 4 rfl) (by decide) (by decide) rfl rfl rfl rfl rfl dX7_init_48 (fun q11 k12 H31 Z32 => ?_)
  clear Z30
  have Z33 : zz_S D V A s [(mo, .inr (7, [.ref q1, .ref q3, .ref q5, .int 0, .ref q7, .ref q9, .null, .null, .null, .null, .null, .null, .null, .null, .int 0, .int 0, .int 0, .int 0, .int 0, .int 0, .int 0, .int 0, .int 0, .int 0, .int 0, .null, .null, .null, .null, .int 0, .null])), (q1, .inl (k2, 3047, .inl (fun _ => 0))), (q3, .inl (k4, 3047, .inl (fun _ => 0))), (q5, .inl (k6, 3047, .inl (fun _ => 0))), (q7, .inl (k8, 4, .inl (fun _ => 0))), (q9, .inl (k10, 4, .inl (fun _ => 0))), (q11, .inl (k12, 96, .inl (fun _ => 0)))] [(k2, .int), (k4, .int), (k6, .int), (k8, .int), (k10, .int), (k12, .int)] H31 _ := Z32
  clear Z32
  refine zz_putF (WS' := [(mo, .inr (7, [.ref q1, .ref q3, .ref q5, .int 0, .ref q7, .ref q9, .ref q11, .null, .null, .null, .null, .null, .null, .null, .int 0, .int 0, .int 0, .int 0, .int 0, .int 0, .int 0, .int 0, .int 0, .int 0, .int 0, .null, .null, .null, .null, .int 0, .null])), (q1, .inl (k2, 3047, .inl (fun _ => 0))), (q3, .inl (k4, 3047, .inl (fun _ => 0))), (q5, .inl (k6, 3047, .inl (fun _ => 0))), (q7, .inl (k8, 4, .inl (fun _ => 0))), (q9, .inl (k10, 4, .inl (fun _ => 0))), (q11, .inl (k12, 96, .inl (fun _ => 0)))]) X Z33 0 rfl rfl (fun w h => List.mem_cons_of_mem _ (List.mem_append_right _ h)) tyX7 tyX7_ok nmX7 6 rfl (zz_m 10 rfl) rfl hini rfl rfl rfl rfl dX7_init_50 rfl (fun H34 locs35 Z36 => ?_)
  clear Z33
  refine lv_aload_n hx hb dX7_init_53 rfl (lv_at hl 0 rfl) ?_
  refine lv_iconst (v := 5) hx hb dX7_init_54 (by decide) ?_
  refine zz_newi (k := 7) (n := 9250) (N' := 5) X Z36 (zz_m 4 rfl) (by decide) (by decide) rfl rfl rfl rfl rfl dX7_init_55 (fun q13 k14 H37 Z38 => ?_)
  clear Z36
  have Z39 : zz_S D V A s [(mo, .inr (7, [.ref q1, .ref q3, .ref q5, .int 0, .ref q7, .ref q9, .ref q11, .null, .null, .null, .null, .null, .null, .null, .int 0, .int 0, .int 0, .int 0, .int 0, .int 0, .int 0, .int 0, .int 0, .int 0, .int 0, .null, .null, .null, .null, .int 0, .null])), (q1, .inl (k2, 3047, .inl (fun _ => 0))), (q3, .inl (k4, 3047, .inl (fun _ => 0))), (q5, .inl (k6, 3047, .inl (fun _ => 0))), (q7, .inl (k8, 4, .inl (fun _ => 0))), (q9, .inl (k10, 4, .inl (fun _ => 0))), (q11, .inl (k12, 96, .inl (fun _ => 0))), (q13, .inl (k14, 5, .inl (fun _ => 0)))] [(k2, .int), (k4, .int), (k6, .int), (k8, .int), (k10, .int), (k12, .int), (k14, .int)] H37 _ := Z38
  clear Z38
  refine zz_putF (WS' := [(mo, .inr (7, [.ref q1, .ref q3, .ref q5, .int 0, .ref q7, .ref q9, .ref q11, .ref q13, .null, .null, .null, .null, .null, .null, .int 0, .int 0, .int 0, .int 0, .int 0, .int 0, .int 0, .int 0, .int 0, .int 0, .int 0, .null, .null, .null, .null, .int 0, .null])), (q1, .inl (k2, 3047, .inl (fun _ => 0))), (q3, .inl (k4, 3047, .inl (fun _ => 0))), (q5, .inl (k6, 3047, .inl (fun _ => 0))), (q7, .inl (k8, 4, .inl (fun _ => 0))), (q9, .inl (k10, 4, .inl (fun _ => 0))), (q11, .inl (k12, 96, .inl (fun _ => 0))), (q13, .inl (k14, 5, .inl (fun _ => 0)))]) X Z39 0 rfl rfl (fun w h => List.mem_cons_of_mem _ (List.mem_append_right _ h)) tyX7 tyX7_ok nmX7 7 rfl (zz_m 11 rfl) rfl hini rfl rfl rfl rfl dX7_init_57 rfl (fun H40 locs41 Z42 => ?_)
  clear Z39
  refine lv_aload_n hx hb dX7_init_60 rfl (lv_at hl 0 rfl) ?_
  refine lv_iconst (v := 5) hx hb dX7_init_61 (by decide) ?_
  refine zz_newi (k := 8) (n := 9255) (N' := 5) X Z42 (zz_m 4 rfl) (by decide) (by decide) rfl rfl rfl rfl rfl dX7_init_62 (fun q15 k16 H43 Z44 => ?_)
  clear Z42
  have Z45 : zz_S D V A s [(mo, .inr (7, [.ref q1, .ref q3, .ref q5, .int 0, .ref q7, .ref q9, .ref q11, .ref q13, .null, .null, .null, .null, .null, .null, .int 0, .int 0, .int 0, .int 0, .int 0, .int 0, .int 0, .int 0, .int 0, .int 0, .int 0, .null, .null, .null, .null, .int 0, .null])), (q1, .inl (k2, 3047, .inl (fun _ => 0))), (q3, .inl (k4, 3047, .inl (fun _ => 0))), (q5, .inl (k6, 3047, .inl (fun _ => 0))), (q7, .inl (k8, 4, .inl (fun _ => 0))), (q9, .inl (k10, 4, .inl (fun _ => 0))), (q11, .inl (k12, 96, .inl (fun _ => 0))), (q13, .inl (k14, 5, .inl (fun _ => 0))), (q15, .inl (k16, 5, .inl (fun _ => 0)))] [(k2, .int), (k4, .int), (k6, .int), (k8, .int), (k10, .int), (k12, .int), (k14, .int), (k16, .int)] H43 _ := Z44
  clear Z44
  refine zz_putF (WS' := [(mo, .inr (7, [.ref q1, .ref q3, .ref q5, .int 0, .ref q7, .ref q9, .ref q11, .ref q13, .ref q15, .null, .null, .null, .null, .null, .int 0, .int 0, .int 0, .int 0, .int 0, .int 0, .int 0, .int 0, .int 0, .int 0, .int 0, .null, .null, .null, .null, .int 0, .null])), (q1, .inl (k2, 3047, .inl (fun _ => 0))), (q3, .inl (k4, 3047, .inl (fun _ => 0))), (q5, .inl (k6, 3047, .inl (fun _ => 0))), (q7, .inl (k8, 4, .inl (fun _ => 0))), (q9, .inl (k10, 4, .inl (fun _ => 0))), (q11, .inl (k12, 96, .inl (fun _ => 0))), (q13, .inl (k14, 5, .inl (fun _ => 0))), (q15, .inl (k16, 5, .inl (fun _ => 0)))]) X Z45 0 rfl rfl (fun w h => List.mem_cons_of_mem _ (List.mem_append_right _ h)) tyX7 tyX7_ok nmX7 8 rfl (zz_m 12 rfl) rfl hini rfl rfl rfl rfl dX7_init_64 rfl (fun H46 locs47 Z48 => ?_)
  clear Z45
  refine lv_aload_n hx hb dX7_init_67 rfl (lv_at hl 0 rfl) ?_
  refine lv_iconst (v := 5) hx hb dX7_init_68 (by decide) ?_
  refine zz_newi (k := 9) (n := 9260) (N' := 5) X Z48 (zz_m 4 rfl) (by decide) (by decide) rfl rfl rfl rfl rfl dX7_init_69 (fun q17 k18 H49 Z50 => ?_)
  clear Z48
  have Z51 : zz_S D V A s [(mo, .inr (7, [.ref q1, .ref q3, .ref q5, .int 0, .ref q7, .ref q9, .ref q11, .ref q13, .ref q15, .null, .null, .null, .null, .null, .int 0, .int 0, .int 0, .int 0, .int 0, .int 0, .int 0, .int 0, .int 0, .int 0, .int 0, .null, .null, .null, .null, .int 0, .null])), (q1, .inl (k2, 3047, .inl (fun _ => 0))), (q3, .inl (k4, 3047, .inl (fun _ => 0))), (q5, .inl (k6, 3047, .inl (fun _ => 0))), (q7, .inl (k8, 4, .inl (fun _ => 0))), (q9, .inl (k10, 4, .inl (fun _ => 0))), (q11, .inl (k12, 96, .inl (fun _ => 0))), (q13, .inl (k14, 5, .inl (fun _ => 0))), (q15, .inl (k16, 5, .inl (fun _ => 0))), (q17, .inl (k18, 5, .inl (fun _ => 0)))] [(k2, .int), (k4, .int), (k6, .int), (k8, .int), (k10, .int), (k12, .int), (k14, .int), (k16, .int), (k18, .int)] H49 _ := Z50
  clear Z50
  refine zz_putF (WS' := [(mo, .inr (7, [.ref q1, .ref q3, .ref q5, .int 0, .ref q7, .ref q9, .ref q11, .ref q13, .ref q15, .ref q17, .null, .null, .null, .null, .int 0, .int 0, .int 0, .int 0, .int 0, .int 0, .int 0, .int 0, .int 0, .int 0, .int 0, .null, .null, .null, .null, .int 0, .null])), (q1, .inl (k2, 3047, .inl (fun _ => 0))), (q3, .inl (k4, 3047, .inl (fun _ => 0))), (q5, .inl (k6, 3047, .inl (fun _ => 0))), (q7, .inl (k8, 4, .inl (fun _ => 0))), (q9, .inl (k10, 4, .inl (fun _ => 0))), (q11, .inl (k12, 96, .inl (fun _ => 0))), (q13, .inl (k14, 5, .inl (fun _ => 0))), (q15, .inl (k16, 5, .inl (fun _ => 0))), (q17, .inl (k18, 5, .inl (fun _ => 0)))]) X Z51 0 rfl rfl (fun w h => List.mem_cons_of_mem _ (List.mem_append_right _ h)) tyX7 tyX7_ok nmX7 9 rfl (zz_m 13 rfl) rfl hini rfl rfl rfl rfl dX7_init_71 rfl (fun H52 locs53 Z54 => ?_)
  clear Z51
  refine lv_aload_n hx hb dX7_init_74 rfl (lv_at hl 0 rfl) ?_
  refine lv_iconst (v := 5) hx hb dX7_init_75 (by decide) ?_
  refine zz_newi (k := 10) (n := 9265) (N' := 5) X Z54 (zz_m 4 rfl) (by decide) (by decide) rfl rfl rfl rfl rfl dX7_init_76 (fun q19 k20 H55 Z56 => ?_)
  clear Z54
  have Z57 : zz_S D V A s [(mo, .inr (7, [.ref q1, .ref q3, .ref q5, .int 0, .ref q7, .ref q9, .ref q11, .ref q13, .ref q15, .ref q17, .null, .null, .null, .null, .int 0, .int 0, .int 0, .int 0, .int 0, .int 0, .int 0, .int 0, .int 0, .int 0, .int 0, .null, .null, .null, .null, .int 0, .null])), (q1, .inl (k2, 3047, .inl (fun _ => 0))), (q3, .inl (k4, 3047, .inl (fun _ => 0))), (q5, .inl (k6, 3047, .inl (fun _ => 0))), (q7, .inl (k8, 4, .inl (fun _ => 0))), (q9, .inl (k10, 4, .inl (fun _ => 0))), (q11, .inl (k12, 96, .inl (fun _ => 0))), (q13, .inl (k14, 5, .inl (fun _ => 0))), (q15, .inl (k16, 5, .inl (fun _ => 0))), (q17, .inl (k18, 5, .inl (fun _ => 0))), (q19, .inl (k20, 5, .inl (fun _ => 0)))] [(k2, .int), (k4, .int), (k6, .int), (k8, .int), (k10, .int), (k12, .int), (k14, .int), (k16, .int), (k18, .int), (k20, .int)] H55 _ := Z56
  clear Z56
  refine zz_putF (WS' := [(mo, .inr (7, [.ref q1, .ref q3, .ref q5, .int 0, .ref q7, .ref q9, .ref q11, .ref q13, .ref q15, .ref q17, .ref q19, .null, .null, .null, .int 0, .int 0, .int 0, .int 0, .int 0, .int 0, .int 0, .int 0, .int 0, .int 0, .int 0, .null, .null, .null, .null, .int 0, .null])), (q1, .inl (k2, 3047, .inl (fun _ => 0))), (q3, .inl (k4, 3047, .inl (fun _ => 0))), (q5, .inl (k6, 3047, .inl (fun _ => 0))), (q7, .inl (k8, 4, .inl (fun _ => 0))), (q9, .inl (k10, 4, .inl (fun _ => 0))), (q11, .inl (k12, 96, .inl (fun _ => 0))), (q13, .inl (k14, 5, .inl (fun _ => 0))), (q15, .inl (k16, 5, .inl (fun _ => 0))), (q17, .inl (k18, 5, .inl (fun _ => 0))), (q19, .inl (k20, 5, .inl (fun _ => 0)))]) X Z57 0 rfl rfl (fun w h => List.mem_cons_of_mem _ (List.mem_append_right _ h)) tyX7 tyX7_ok nmX7 10 rfl (zz_m 14 rfl) rfl hini rfl rfl rfl rfl dX7_init_78 rfl (fun H58 locs59 Z60 => ?_)
  clear Z57
  refine lv_aload_n hx hb dX7_init_81 rfl (lv_at hl 0 rfl) ?_
  refine lv_bipush (v := 120) hx hb dX7_init_82 (by decide) ?_
  refine zz_newi (k := 11) (n := 9385) (N' := 120) X Z60 (zz_m 4 rfl) (by decide) (by decide) rfl rfl rfl rfl rfl dX7_init_84 (fun q21 k22 H61 Z62 => ?_)
  clear Z60
  have Z63 : zz_S D V A s [(mo, .inr (7, [.ref q1, .ref q3, .ref q5, .int 0, .ref q7, .ref q9, .ref q11, .ref q13, .ref q15, .ref q17, .ref q19, .null, .null, .null, .int 0, .int 0, .int 0, .int 0, .int 0, .int 0, .int 0, .int 0, .int 0, .int 0, .int 0, .null, .null, .null, .null, .int 0, .null])), (q1, .inl (k2, 3047, .inl (fun _ => 0))), (q3, .inl (k4, 3047, .inl (fun _ => 0))), (q5, .inl (k6, 3047, .inl (fun _ => 0))), (q7, .inl (k8, 4, .inl (fun _ => 0))), (q9, .inl (k10, 4, .inl (fun _ => 0))), (q11, .inl (k12, 96, .inl (fun _ => 0))), (q13, .inl (k14, 5, .inl (fun _ => 0))), (q15, .inl (k16, 5, .inl (fun _ => 0))), (q17, .inl (k18, 5, .inl (fun _ => 0))), (q19, .inl (k20, 5, .inl (fun _ => 0))), (q21, .inl (k22, 120, .inl (fun _ => 0)))] [(k2, .int), (k4, .int), (k6, .int), (k8, .int), (k10, .int), (k12, .int), (k14, .int), (k16, .int), (k18, .int), (k20, .int), (k22, .int)] H61 _ := Z62
  clear Z62
  refine zz_putF (WS' := [(mo, .inr (7, [.ref q1, .ref q3, .ref q5, .int 0, .ref q7, .ref q9, .ref q11, .ref q13, .ref q15, .ref q17, .ref q19, .ref q21, .null, .null, .int 0, .int 0, .int 0, .int 0, .int 0, .int 0, .int 0, .int 0, .int 0, .int 0, .int 0, .null, .null, .null, .null, .int 0, .null])), (q1, .inl (k2, 3047, .inl (fun _ => 0))), (q3, .inl (k4, 3047, .inl (fun _ => 0))), (q5, .inl (k6, 3047, .inl (fun _ => 0))), (q7, .inl (k8, 4, .inl (fun _ => 0))), (q9, .inl (k10, 4, .inl (fun _ => 0))), (q11, .inl (k12, 96, .inl (fun _ => 0))), (q13, .inl (k14, 5, .inl (fun _ => 0))), (q15, .inl (k16, 5, .inl (fun _ => 0))), (q17, .inl (k18, 5, .inl (fun _ => 0))), (q19, .inl (k20, 5, .inl (fun _ => 0))), (q21, .inl (k22, 120, .inl (fun _ => 0)))]) X Z63 0 rfl rfl (fun w h => List.mem_cons_of_mem _ (List.mem_append_right _ h)) tyX7 tyX7_ok nmX7 11 rfl (zz_m 15 rfl) rfl hini rfl rfl rfl rfl dX7_init_86 rfl (fun H64 locs65 Z66 => ?_)
  clear Z63
  refine lv_aload_n hx hb dX7_init_89 rfl (lv_at hl 0 rfl) ?_
  refine lv_bipush (v := 47) hx hb dX7_init_90 (by decide) ?_
  refine zz_newi (k := 12) (n := 9432) (N' := 47) X Z66 (zz_m 4 rfl) (by decide) (by decide) rfl rfl rfl rfl rfl dX7_init_92 (fun q23 k24 H67 Z68 => ?_)
  clear Z66
  have Z69 : zz_S D V A s [(mo, .inr (7, [.ref q1, .ref q3, .ref q5, .int 0, .ref q7, .ref q9, .ref q11, .ref q13, .ref q15, .ref q17, .ref q19, .ref q21, .null, .null, .int 0, .int 0, .int 0, .int 0, .int 0, .int 0, .int 0, .int 0, .int 0, .int 0, .int 0, .null, .null, .null, .null, .int 0, .null])), (q1, .inl (k2, 3047, .inl (fun _ => 0))), (q3, .inl (k4, 3047, .inl (fun _ => 0))), (q5, .inl (k6, 3047, .inl (fun _ => 0))), (q7, .inl (k8, 4, .inl (fun _ => 0))), (q9, .inl (k10, 4, .inl (fun _ => 0))), (q11, .inl (k12, 96, .inl (fun _ => 0))), (q13, .inl (k14, 5, .inl (fun _ => 0))), (q15, .inl (k16, 5, .inl (fun _ => 0))), (q17, .inl (k18, 5, .inl (fun _ => 0))), (q19, .inl (k20, 5, .inl (fun _ => 0))), (q21, .inl (k22, 120, .inl (fun _ => 0))), (q23, .inl (k24, 47, .inl (fun _ => 0)))] [(k2, .int), (k4, .int), (k6, .int), (k8, .int), (k10, .int), (k12, .int), (k14, .int), (k16, .int), (k18, .int), (k20, .int), (k22, .int), (k24, .int)] H67 _ := Z68
  clear Z68
  refine zz_putF (WS' := [(mo, .inr (7, [.ref q1, .ref q3, .ref q5, .int 0, .ref q7, .ref q9, .ref q11, .ref q13, .ref q15, .ref q17, .ref q19, .ref q21, .ref q23, .null, .int 0, .int 0, .int 0, .int 0, .int 0, .int 0, .int 0, .int 0, .int 0, .int 0, .int 0, .null, .null, .null, .null, .int 0, .null])), (q1, .inl (k2, 3047, .inl (fun _ => 0))), (q3, .inl (k4, 3047, .inl (fun _ => 0))), (q5, .inl (k6, 3047, .inl (fun _ => 0))), (q7, .inl (k8, 4, .inl (fun _ => 0))), (q9, .inl (k10, 4, .inl (fun _ => 0))), (q11, .inl (k12, 96, .inl (fun _ => 0))), (q13, .inl (k14, 5, .inl (fun _ => 0))), (q15, .inl (k16, 5, .inl (fun _ => 0))), (q17, .inl (k18, 5, .inl (fun _ => 0))), (q19, .inl (k20, 5, .inl (fun _ => 0))), (q21, .inl (k22, 120, .inl (fun _ => 0))), (q23, .inl (k24, 47, .inl (fun _ => 0)))]) X Z69 0 rfl rfl (fun w h => List.mem_cons_of_mem _ (List.mem_append_right _ h)) tyX7 tyX7_ok nmX7 12 rfl (zz_m 16 rfl) rfl hini rfl rfl rfl rfl dX7_init_94 rfl (fun H70 locs71 Z72 => ?_)
  clear Z69
  refine lv_aload_n hx hb dX7_init_97 rfl (lv_at hl 0 rfl) ?_
  refine lv_bipush (v := 96) hx hb dX7_init_98 (by decide) ?_
  refine zz_newi (k := 13) (n := 9528) (N' := 96) X Z72 (zz_m 4 rfl) (by decide) (by decide) rfl rfl rfl rfl rfl dX7_init_100 (fun q25 k26 H73 Z74 => ?_)
  clear Z72
  have Z75 : zz_S D V A s [(mo, .inr (7, [.ref q1, .ref q3, .ref q5, .int 0, .ref q7, .ref q9, .ref q11, .ref q13, .ref q15, .ref q17, .ref q19, .ref q21, .ref q23, .null, .int 0, .int 0, .int 0, .int 0, .int 0, .int 0, .int 0, .int 0, .int 0, .int 0, .int 0, .null, .null, .null, .null, .int 0, .null])), (q1, .inl (k2, 3047, .inl (fun _ => 0))), (q3, .inl (k4, 3047, .inl (fun _ => 0))), (q5, .inl (k6, 3047, .inl (fun _ => 0))), (q7, .inl (k8, 4, .inl (fun _ => 0))), (q9, .inl (k10, 4, .inl (fun _ => 0))), (q11, .inl (k12, 96, .inl (fun _ => 0))), (q13, .inl (k14, 5, .inl (fun _ => 0))), (q15, .inl (k16, 5, .inl (fun _ => 0))), (q17, .inl (k18, 5, .inl (fun _ => 0))), (q19, .inl (k20, 5, .inl (fun _ => 0))), (q21, .inl (k22, 120, .inl (fun _ => 0))), (q23, .inl (k24, 47, .inl (fun _ => 0))), (q25, .inl (k26, 96, .inl (fun _ => 0)))] [(k2, .int), (k4, .int), (k6, .int), (k8, .int), (k10, .int), (k12, .int), (k14, .int), (k16, .int), (k18, .int), (k20, .int), (k22, .int), (k24, .int), (k26, .int)] H73 _ := Z74
  clear Z74
  refine zz_putF (WS' := [(mo, .inr (7, [.ref q1, .ref q3, .ref q5, .int 0, .ref q7, .ref q9, .ref q11, .ref q13, .ref q15, .ref q17, .ref q19, .ref q21, .ref q23, .ref q25, .int 0, .int 0, .int 0, .int 0, .int 0, .int 0, .int 0, .int 0, .int 0, .int 0, .int 0, .null, .null, .null, .null, .int 0, .null])), (q1, .inl (k2, 3047, .inl (fun _ => 0))), (q3, .inl (k4, 3047, .inl (fun _ => 0))), (q5, .inl (k6, 3047, .inl (fun _ => 0))), (q7, .inl (k8, 4, .inl (fun _ => 0))), (q9, .inl (k10, 4, .inl (fun _ => 0))), (q11, .inl (k12, 96, .inl (fun _ => 0))), (q13, .inl (k14, 5, .inl (fun _ => 0))), (q15, .inl (k16, 5, .inl (fun _ => 0))), (q17, .inl (k18, 5, .inl (fun _ => 0))), (q19, .inl (k20, 5, .inl (fun _ => 0))), (q21, .inl (k22, 120, .inl (fun _ => 0))), (q23, .inl (k24, 47, .inl (fun _ => 0))), (q25, .inl (k26, 96, .inl (fun _ => 0)))]) X Z75 0 rfl rfl (fun w h => List.mem_cons_of_mem _ (List.mem_append_right _ h)) tyX7 tyX7_ok nmX7 13 rfl (zz_m 17 rfl) rfl hini rfl rfl rfl rfl dX7_init_102 rfl (fun H76 locs77 Z78 => ?_)
  clear Z75
  refine lv_aload_n hx hb dX7_init_105 rfl (lv_at hl 0 rfl) ?_
  refine lv_sipush (v := 128) hx hb dX7_init_106 (by decide) ?_
  refine zz_newi (k := 14) (n := 9656) (N' := 128) X Z78 (zz_m 4 rfl) (by decide) (by decide) rfl rfl rfl rfl rfl dX7_init_109 (fun q27 k28 H79 Z80 => ?_)
  clear Z78
  have Z81 : zz_S D V A s [(mo, .inr (7, [.ref q1, .ref q3, .ref q5, .int 0, .ref q7, .ref q9, .ref q11, .ref q13, .ref q15, .ref q17, .ref q19, .ref q21, .ref q23, .ref q25, .int 0, .int 0, .int 0, .int 0, .int 0, .int 0, .int 0, .int 0, .int 0, .int 0, .int 0, .null, .null, .null, .null, .int 0, .null])), (q1, .inl (k2, 3047, .inl (fun _ => 0))), (q3, .inl (k4, 3047, .inl (fun _ => 0))), (q5, .inl (k6, 3047, .inl (fun _ => 0))), (q7, .inl (k8, 4, .inl (fun _ => 0))), (q9, .inl (k10, 4, .inl (fun _ => 0))), (q11, .inl (k12, 96, .inl (fun _ => 0))), (q13, .inl (k14, 5, .inl (fun _ => 0))), (q15, .inl (k16, 5, .inl (fun _ => 0))), (q17, .inl (k18, 5, .inl (fun _ => 0))), (q19, .inl (k20, 5, .inl (fun _ => 0))), (q21, .inl (k22, 120, .inl (fun _ => 0))), (q23, .inl (k24, 47, .inl (fun _ => 0))), (q25, .inl (k26, 96, .inl (fun _ => 0))), (q27, .inl (k28, 128, .inl (fun _ => 0)))] [(k2, .int), (k4, .int), (k6, .int), (k8, .int), (k10, .int), (k12, .int), (k14, .int), (k16, .int), (k18, .int), (k20, .int), (k22, .int), (k24, .int), (k26, .int), (k28, .int)] H79 _ := Z80
  clear Z80
  refine zz_putF (WS' := [(mo, .inr (7, [.ref q1, .ref q3, .ref q5, .int 0, .ref q7, .ref q9, .ref q11, .ref q13, .ref q15, .ref q17, .ref q19, .ref q21, .ref q23, .ref q25, .int 0, .int 0, .int 0, .int 0, .int 0, .int 0, .int 0, .int 0, .int 0, .int 0, .int 0, .ref q27, .null, .null, .null, .int 0, .null])), (q1, .inl (k2, 3047, .inl (fun _ => 0))), (q3, .inl (k4, 3047, .inl (fun _ => 0))), (q5, .inl (k6, 3047, .inl (fun _ => 0))), (q7, .inl (k8, 4, .inl (fun _ => 0))), (q9, .inl (k10, 4, .inl (fun _ => 0))), (q11, .inl (k12, 96, .inl (fun _ => 0))), (q13, .inl (k14, 5, .inl (fun _ => 0))), (q15, .inl (k16, 5, .inl (fun _ => 0))), (q17, .inl (k18, 5, .inl (fun _ => 0))), (q19, .inl (k20, 5, .inl (fun _ => 0))), (q21, .inl (k22, 120, .inl (fun _ => 0))), (q23, .inl (k24, 47, .inl (fun _ => 0))), (q25, .inl (k26, 96, .inl (fun _ => 0))), (q27, .inl (k28, 128, .inl (fun _ => 0)))]) X Z81 0 rfl rfl (fun w h => List.mem_cons_of_mem _ (List.mem_append_right _ h)) tyX7 tyX7_ok nmX7 25 rfl (zz_m 18 rfl) rfl hini rfl rfl rfl rfl dX7_init_111 rfl (fun H82 locs83 Z84 => ?_)
  clear Z81
  refine lv_aload_n hx hb dX7_init_114 rfl (lv_at hl 0 rfl) ?_
  refine lv_bipush (v := 100) hx hb dX7_init_115 (by decide) ?_
  refine zz_newi (k := 15) (n := 9756) (N' := 100) X Z84 (zz_m 4 rfl) (by decide) (by decide) rfl rfl rfl rfl rfl dX7_init_117 (fun q29 k30 H85 Z86 => ?_)
  clear Z84
  have Z87 : zz_S D V A s [(mo, .inr (7, [.ref q1, .ref q3, .ref q5, .int 0, .ref q7, .ref q9, .ref q11, .ref q13, .ref q15, .ref q17, .ref q19, .ref q21, .ref q23, .ref q25, .int 0, .int 0, .int 0, .int 0, .int 0, .int 0, .int 0, .int 0, .int 0, .int 0, .int 0, .ref q27, .null, .null, .null, .int 0, .null])), (q1, .inl (k2, 3047, .inl (fun _ => 0))), (q3, .inl (k4, 3047, .inl (fun _ => 0))), (q5, .inl (k6, 3047, .inl (fun _ => 0))), (q7, .inl (k8, 4, .inl (fun _ => 0))), (q9, .inl (k10, 4, .inl (fun _ => 0))), (q11, .inl (k12, 96, .inl (fun _ => 0))), (q13, .inl (k14, 5, .inl (fun _ => 0))), (q15, .inl (k16, 5, .inl (fun _ => 0))), (q17, .inl (k18, 5, .inl (fun _ => 0))), (q19, .inl (k20, 5, .inl (fun _ => 0))), (q21, .inl (k22, 120, .inl (fun _ => 0))), (q23, .inl (k24, 47, .inl (fun _ => 0))), (q25, .inl (k26, 96, .inl (fun _ => 0))), (q27, .inl (k28, 128, .inl (fun _ => 0))), (q29, .inl (k30, 100, .inl (fun _ => 0)))] [(k2, .int), (k4, .int), (k6, .int), (k8, .int), (k10, .int), (k12, .int), (k14, .int), (k16, .int), (k18, .int), (k20, .int), (k22, .int), (k24, .int), (k26, .int), (k28, .int), (k30, .int)] H85 _ := Z86
  clear Z86
  refine zz_putF (WS' := [(mo, .inr (7, [.ref q1, .ref q3, .ref q5, .int 0, .ref q7, .ref q9, .ref q11, .ref q13, .ref q15, .ref q17, .ref q19, .ref q21, .ref q23, .ref q25, .int 0, .int 0, .int 0, .int 0, .int 0, .int 0, .int 0, .int 0, .int 0, .int 0, .int 0, .ref q27, .ref q29, .null, .null, .int 0, .null])), (q1, .inl (k2, 3047, .inl (fun _ => 0))), (q3, .inl (k4, 3047, .inl (fun _ => 0))), (q5, .inl (k6, 3047, .inl (fun _ => 0))), (q7, .inl (k8, 4, .inl (fun _ => 0))), (q9, .inl (k10, 4, .inl (fun _ => 0))), (q11, .inl (k12, 96, .inl (fun _ => 0))), (q13, .inl (k14, 5, .inl (fun _ => 0))), (q15, .inl (k16, 5, .inl (fun _ => 0))), (q17, .inl (k18, 5, .inl (fun _ => 0))), (q19, .inl (k20, 5, .inl (fun _ => 0))), (q21, .inl (k22, 120, .inl (fun _ => 0))), (q23, .inl (k24, 47, .inl (fun _ => 0))), (q25, .inl (k26, 96, .inl (fun _ => 0))), (q27, .inl (k28, 128, .inl (fun _ => 0))), (q29, .inl (k30, 100, .inl (fun _ => 0)))]) X Z87 0 rfl rfl (fun w h => List.mem_cons_of_mem _ (List.mem_append_right _ h)) tyX7 tyX7_ok nmX7 26 rfl (zz_m 19 rfl) rfl hini rfl rfl rfl rfl dX7_init_119 rfl (fun H88 locs89 Z90 => ?_)
  clear Z87
  refine lv_aload_n hx hb dX7_init_122 rfl (lv_at hl 0 rfl) ?_
  refine lv_bipush (v := 24) hx hb dX7_init_123 (by decide) ?_
  refine zz_newi (k := 16) (n := 9780) (N' := 24) X Z90 (zz_m 4 rfl) (by decide) (by decide) rfl rfl rfl rfl rfl dX7_init_125 (fun q31 k32 H91 Z92 => ?_)
  clear Z90
  have Z93 : zz_S D V A s [(mo, .inr (7, [.ref q1, .ref q3, .ref q5, .int 0, .ref q7, .ref q9, .ref q11, .ref q13, .ref q15, .ref q17, .ref q19, .ref q21, .ref q23, .ref q25, .int 0, .int 0, .int 0, .int 0, .int 0, .int 0, .int 0, .int 0, .int 0, .int 0, .int 0, .ref q27, .ref q29, .null, .null, .int 0, .null])), (q1, .inl (k2, 3047, .inl (fun _ => 0))), (q3, .inl (k4, 3047, .inl (fun _ => 0))), (q5, .inl (k6, 3047, .inl (fun _ => 0))), (q7, .inl (k8, 4, .inl (fun _ => 0))), (q9, .inl (k10, 4, .inl (fun _ => 0))), (q11, .inl (k12, 96, .inl (fun _ => 0))), (q13, .inl (k14, 5, .inl (fun _ => 0))), (q15, .inl (k16, 5, .inl (fun _ => 0))), (q17, .inl (k18, 5, .inl (fun _ => 0))), (q19, .inl (k20, 5, .inl (fun _ => 0))), (q21, .inl (k22, 120, .inl (fun _ => 0))), (q23, .inl (k24, 47, .inl (fun _ => 0))), (q25, .inl (k26, 96, .inl (fun _ => 0))), (q27, .inl (k28, 128, .inl (fun _ => 0))), (q29, .inl (k30, 100, .inl (fun _ => 0))), (q31, .inl (k32, 24, .inl (fun _ => 0)))] [(k2, .int), (k4, .int), (k6, .int), (k8, .int), (k10, .int), (k12, .int), (k14, .int), (k16, .int), (k18, .int), (k20, .int), (k22, .int), (k24, .int), (k26, .int), (k28, .int), (k30, .int), (k32, .int)] H91 _ := Z92
  clear Z92
  refine zz_putF (WS' := [(mo, .inr (7, [.ref q1, .ref q3, .ref q5, .int 0, .ref q7, .ref q9, .ref q11, .ref q13, .ref q15, .ref q17, .ref q19, .ref q21, .ref q23, .ref q25, .int 0, .int 0, .int 0, .int 0, .int 0, .int 0, .int 0, .int 0, .int 0, .int 0, .int 0, .ref q27, .ref q29, .ref q31, .null, .int 0, .null])), (q1, .inl (k2, 3047, .inl (fun _ => 0))), (q3, .inl (k4, 3047, .inl (fun _ => 0))), (q5, .inl (k6, 3047, .inl (fun _ => 0))), (q7, .inl (k8, 4, .inl (fun _ => 0))), (q9, .inl (k10, 4, .inl (fun _ => 0))), (q11, .inl (k12, 96, .inl (fun _ => 0))), (q13, .inl (k14, 5, .inl (fun _ => 0))), (q15, .inl (k16, 5, .inl (fun _ => 0))), (q17, .inl (k18, 5, .inl (fun _ => 0))), (q19, .inl (k20, 5, .inl (fun _ => 0))), (q21, .inl (k22, 120, .inl (fun _ => 0))), (q23, .inl (k24, 47, .inl (fun _ => 0))), (q25, .inl (k26, 96, .inl (fun _ => 0))), (q27, .inl (k28, 128, .inl (fun _ => 0))), (q29, .inl (k30, 100, .inl (fun _ => 0))), (q31, .inl (k32, 24, .inl (fun _ => 0)))]) X Z93 0 rfl rfl (fun w h => List.mem_cons_of_mem _ (List.mem_append_right _ h)) tyX7 tyX7_ok nmX7 27 rfl (zz_m 20 rfl) rfl hini rfl rfl rfl rfl dX7_init_127 rfl (fun H94 locs95 Z96 => ?_)
  clear Z93
  refine lv_aload_n hx hb dX7_init_130 rfl (lv_at hl 0 rfl) ?_
  refine lv_bipush (v := 60) hx hb dX7_init_131 (by decide) ?_
  refine zz_newi (k := 17) (n := 9840) (N' := 60) X Z96 (zz_m 4 rfl) (by decide) (by decide) rfl rfl rfl rfl rfl dX7_init_133 (fun q33 k34 H97 Z98 => ?_)
  clear Z96
  have Z99 : zz_S D V A s [(mo, .inr (7, [.ref q1, .ref q3, .ref q5, .int 0, .ref q7, .ref q9, .ref q11, .ref q13, .ref q15, .ref q17, .ref q19, .ref q21, .ref q23, .ref q25, .int 0, .int 0, .int 0, .int 0, .int 0, .int 0, .int 0, .int 0, .int 0, .int 0, .int 0, .ref q27, .ref q29, .ref q31, .null, .int 0, .null])), (q1, .inl (k2, 3047, .inl (fun _ => 0))), (q3, .inl (k4, 3047, .inl (fun _ => 0))), (q5, .inl (k6, 3047, .inl (fun _ => 0))), (q7, .inl (k8, 4, .inl (fun _ => 0))), (q9, .inl (k10, 4, .inl (fun _ => 0))), (q11, .inl (k12, 96, .inl (fun _ => 0))), (q13, .inl (k14, 5, .inl (fun _ => 0))), (q15, .inl (k16, 5, .inl (fun _ => 0))), (q17, .inl (k18, 5, .inl (fun _ => 0))), (q19, .inl (k20, 5, .inl (fun _ => 0))), (q21, .inl (k22, 120, .inl (fun _ => 0))), (q23, .inl (k24, 47, .inl (fun _ => 0))), (q25, .inl (k26, 96, .inl (fun _ => 0))), (q27, .inl (k28, 128, .inl (fun _ => 0))), (q29, .inl (k30, 100, .inl (fun _ => 0))), (q31, .inl (k32, 24, .inl (fun _ => 0))), (q33, .inl (k34, 60, .inl (fun _ => 0)))] [(k2, .int), (k4, .int), (k6, .int), (k8, .int), (k10, .int), (k12, .int), (k14, .int), (k16, .int), (k18, .int), (k20, .int), (k22, .int), (k24, .int), (k26, .int), (k28, .int), (k30, .int), (k32, .int), (k34, .int)] H97 _ := Z98
  clear Z98
  refine zz_putF (WS' := [(mo, .inr (7, [.ref q1, .ref q3, .ref q5, .int 0, .ref q7, .ref q9, .ref q11, .ref q13, .ref q15, .ref q17, .ref q19, .ref q21, .ref q23, .ref q25, .int 0, .int 0, .int 0, .int 0, .int 0, .int 0, .int 0, .int 0, .int 0, .int 0, .int 0, .ref q27, .ref q29, .ref q31, .ref q33, .int 0, .null])), (q1, .inl (k2, 3047, .inl (fun _ => 0))), (q3, .inl (k4, 3047, .inl (fun _ => 0))), (q5, .inl (k6, 3047, .inl (fun _ => 0))), (q7, .inl (k8, 4, .inl (fun _ => 0))), (q9, .inl (k10, 4, .inl (fun _ => 0))), (q11, .inl (k12, 96, .inl (fun _ => 0))), (q13, .inl (k14, 5, .inl (fun _ => 0))), (q15, .inl (k16, 5, .inl (fun _ => 0))), (q17, .inl (k18, 5, .inl (fun _ => 0))), (q19, .inl (k20, 5, .inl (fun _ => 0))), (q21, .inl (k22, 120, .inl (fun _ => 0))), (q23, .inl (k24, 47, .inl (fun _ => 0))), (q25, .inl (k26, 96, .inl (fun _ => 0))), (q27, .inl (k28, 128, .inl (fun _ => 0))), (q29, .inl (k30, 100, .inl (fun _ => 0))), (q31, .inl (k32, 24, .inl (fun _ => 0))), (q33, .inl (k34, 60, .inl (fun _ => 0)))]) X Z99 0 rfl rfl (fun w h => List.mem_cons_of_mem _ (List.mem_append_right _ h)) tyX7 tyX7_ok nmX7 28 rfl (zz_m 21 rfl) rfl hini rfl rfl rfl rfl dX7_init_135 rfl (fun H100 locs101 Z102 => ?_)
  clear Z99
  refine lv_aload_n hx hb dX7_init_138 rfl (lv_at hl 0 rfl) ?_
  refine lv_bipush (v := 60) hx hb dX7_init_139 (by decide) ?_
  refine zz_newi (k := 18) (n := 9900) (N' := 60) X Z102 (zz_m 4 rfl) (by decide) (by decide) rfl rfl rfl rfl rfl dX7_init_141 (fun q35 k36 H103 Z104 => ?_)
  clear Z102
  have Z105 : zz_S D V A s [(mo, .inr (7, [.ref q1, .ref q3, .ref q5, .int 0, .ref q7, .ref q9, .ref q11, .ref q13, .ref q15, .ref q17, .ref q19, .ref q21, .ref q23, .ref q25, .int 0, .int 0, .int 0, .int 0, .int 0, .int 0, .int 0, .int 0, .int 0, .int 0, .int 0, .ref q27, .ref q29, .ref q31, .ref q33, .int 0, .null])), (q1, .inl (k2, 3047, .inl (fun _ => 0))), (q3, .inl (k4, 3047, .inl (fun _ => 0))), (q5, .inl (k6, 3047, .inl (fun _ => 0))), (q7, .inl (k8, 4, .inl (fun _ => 0))), (q9, .inl (k10, 4, .inl (fun _ => 0))), (q11, .inl (k12, 96, .inl (fun _ => 0))), (q13, .inl (k14, 5, .inl (fun _ => 0))), (q15, .inl (k16, 5, .inl (fun _ => 0))), (q17, .inl (k18, 5, .inl (fun _ => 0))), (q19, .inl (k20, 5, .inl (fun _ => 0))), (q21, .inl (k22, 120, .inl (fun _ => 0))), (q23, .inl (k24, 47, .inl (fun _ => 0))), (q25, .inl (k26, 96, .inl (fun _ => 0))), (q27, .inl (k28, 128, .inl (fun _ => 0))), (q29, .inl (k30, 100, .inl (fun _ => 0))), (q31, .inl (k32, 24, .inl (fun _ => 0))), (q33, .inl (k34, 60, .inl (fun _ => 0))), (q35, .inl (k36, 60, .inl (fun _ => 0)))] [(k2, .int), (k4, .int), (k6, .int), (k8, .int), (k10, .int), (k12, .int), (k14, .int), (k16, .int), (k18, .int), (k20, .int), (k22, .int), (k24, .int), (k26, .int), (k28, .int), (k30, .int), (k32, .int), (k34, .int), (k36, .int)] H103 _ := Z104
  clear Z104
  refine zz_putF (WS' := [(mo, .inr (7, [.ref q1, .ref q3, .ref q5, .int 0, .ref q7, .ref q9, .ref q11, .ref q13, .ref q15, .ref q17, .ref q19, .ref q21, .ref q23, .ref q25, .int 0, .int 0, .int 0, .int 0, .int 0, .int 0, .int 0, .int 0, .int 0, .int 0, .int 0, .ref q27, .ref q29, .ref q31, .ref q33, .int 0, .ref q35])), (q1, .inl (k2, 3047, .inl (fun _ => 0))), (q3, .inl (k4, 3047, .inl (fun _ => 0))), (q5, .inl (k6, 3047, .inl (fun _ => 0))), (q7, .inl (k8, 4, .inl (fun _ => 0))), (q9, .inl (k10, 4, .inl (fun _ => 0))), (q11, .inl (k12, 96, .inl (fun _ => 0))), (q13, .inl (k14, 5, .inl (fun _ => 0))), (q15, .inl (k16, 5, .inl (fun _ => 0))), (q17, .inl (k18, 5, .inl (fun _ => 0))), (q19, .inl (k20, 5, .inl (fun _ => 0))), (q21, .inl (k22, 120, .inl (fun _ => 0))), (q23, .inl (k24, 47, .inl (fun _ => 0))), (q25, .inl (k26, 96, .inl (fun _ => 0))), (q27, .inl (k28, 128, .inl (fun _ => 0))), (q29, .inl (k30, 100, .inl (fun _ => 0))), (q31, .inl (k32, 24, .inl (fun _ => 0))), (q33, .inl (k34, 60, .inl (fun _ => 0))), (q35, .inl (k36, 60, .inl (fun _ => 0)))]) X Z105 0 rfl rfl (fun w h => List.mem_cons_of_mem _ (List.mem_append_right _ h)) tyX7 tyX7_ok nmX7 30 rfl (zz_m 22 rfl) rfl hini rfl rfl rfl rfl dX7_init_143 rfl (fun H106 locs107 Z108 => ?_)
  clear Z105
  refine lv_aload_n hx hb dX7_init_146 rfl (lv_at hl 0 rfl) ?_
  refine zz_get X Z108 0 rfl rfl (fun w h => List.mem_cons_of_mem _ (List.mem_append_right _ h)) 0 rfl (zz_m 5 rfl) rfl dX7_init_147 ?_
  refine lv_bipush (v := 6) hx hb dX7_init_150 (by decide) ?_
  refine lv_iconst (v := 1) hx hb dX7_init_152 (by decide) ?_
  refine zz_istN (WS' := fun f37 => [(mo, .inr (7, [.ref q1, .ref q3, .ref q5, .int 0, .ref q7, .ref q9, .ref q11, .ref q13, .ref q15, .ref q17, .ref q19, .ref q21, .ref q23, .ref q25, .int 0, .int 0, .int 0, .int 0, .int 0, .int 0, .int 0, .int 0, .int 0, .int 0, .int 0, .ref q27, .ref q29, .ref q31, .ref q33, .int 0, .ref q35])), (q1, .inl (k2, 3047, .inl f37)), (q3, .inl (k4, 3047, .inl (fun _ => 0))), (q5, .inl (k6, 3047, .inl (fun _ => 0))), (q7, .inl (k8, 4, .inl (fun _ => 0))), (q9, .inl (k10, 4, .inl (fun _ => 0))), (q11, .inl (k12, 96, .inl (fun _ => 0))), (q13, .inl (k14, 5, .inl (fun _ => 0))), (q15, .inl (k16, 5, .inl (fun _ => 0))), (q17, .inl (k18, 5, .inl (fun _ => 0))), (q19, .inl (k20, 5, .inl (fun _ => 0))), (q21, .inl (k22, 120, .inl (fun _ => 0))), (q23, .inl (k24, 47, .inl (fun _ => 0))), (q25, .inl (k26, 96, .inl (fun _ => 0))), (q27, .inl (k28, 128, .inl (fun _ => 0))), (q29, .inl (k30, 100, .inl (fun _ => 0))), (q31, .inl (k32, 24, .inl (fun _ => 0))), (q33, .inl (k34, 60, .inl (fun _ => 0))), (q35, .inl (k36, 60, .inl (fun _ => 0)))]) X Z108 1 0 rfl rfl (zz_in 6 3047 rfl) dX7_init_153 (fun _ => rfl) (fun f37 ef38 H109 locs110 Z111 => ?_)
  clear Z108
  have m39 : f37 6 = 1 := (by rw [ef38]; rfl)
  have m40 : f37 0 = 0 := (by rw [ef38]; exact rfl)
  have m41 : f37 1 = 0 := (by rw [ef38]; exact rfl)
  have m42 : f37 2 = 0 := (by rw [ef38]; exact rfl)
  have m43 : f37 3 = 0 := (by rw [ef38]; exact rfl)
  have m44 : f37 4 = 0 := (by rw [ef38]; exact rfl)
  have m45 : f37 5 = 0 := (by rw [ef38]; exact rfl)
  have m46 : f37 7 = 0 := (by rw [ef38]; exact rfl)
  have m47 : f37 8 = 0 := (by rw [ef38]; exact rfl)
  have m48 : f37 9 = 0 := (by rw [ef38]; exact rfl)
  have m49 : f37 10 = 0 := (by rw [ef38]; exact rfl)
  have m50 : f37 11 = 0 := (by rw [ef38]; exact rfl)
  refine lv_aload_n hx hb dX7_init_154 rfl (lv_at hl 0 rfl) ?_
  refine zz_get X Z111 0 rfl rfl (fun w h => List.mem_cons_of_mem _ (List.mem_append_right _ h)) 0 rfl (zz_m 5 rfl) rfl dX7_init_155 ?_
  refine lv_bipush (v := 8) hx hb dX7_init_158 (by decide) ?_
  refine lv_iconst (v := 3) hx hb dX7_init_160 (by decide) ?_
  refine zz_istN (WS' := fun f51 => [(mo, .inr (7, [.ref q1, .ref q3, .ref q5, .int 0, .ref q7, .ref q9, .ref q11, .ref q13, .ref q15, .ref q17, .ref q19, .ref q21, .ref q23, .ref q25, .int 0, .int 0, .int 0, .int 0, .int 0, .int 0, .int 0, .int 0, .int 0, .int 0, .int 0, .ref q27, .ref q29, .ref q31, .ref q33, .int 0, .ref q35])), (q1, .inl (k2, 3047, .inl f51)), (q3, .inl (k4, 3047, .inl (fun _ => 0))), (q5, .inl (k6, 3047, .inl (fun _ => 0))), (q7, .inl (k8, 4, .inl (fun _ => 0))), (q9, .inl (k10, 4, .inl (fun _ => 0))), (q11, .inl (k12, 96, .inl (fun _ => 0))), (q13, .inl (k14, 5, .inl (fun _ => 0))), (q15, .inl (k16, 5, .inl (fun _ => 0))), (q17, .inl (k18, 5, .inl (fun _ => 0))), (q19, .inl (k20, 5, .inl (fun _ => 0))), (q21, .inl (k22, 120, .inl (fun _ => 0))), (q23, .inl (k24, 47, .inl (fun _ => 0))), (q25, .inl (k26, 96, .inl (fun _ => 0))), (q27, .inl (k28, 128, .inl (fun _ => 0))), (q29, .inl (k30, 100, .inl (fun _ => 0))), (q31, .inl (k32, 24, .inl (fun _ => 0))), (q33, .inl (k34, 60, .inl (fun _ => 0))), (q35, .inl (k36, 60, .inl (fun _ => 0)))]) X Z111 1 0 rfl rfl (zz_in 8 3047 rfl) dX7_init_161 (fun _ => rfl) (fun f51 ef52 H112 locs113 Z114 => ?_)
  clear Z111
  have m53 : f51 8 = 3 := (by rw [ef52]; rfl)
  have m54 : f51 6 = 1 := (by rw [ef52]; exact m39)
  have m55 : f51 0 = 0 := (by rw [ef52]; exact m40)
  have m56 : f51 1 = 0 := (by rw [ef52]; exact m41)
  have m57 : f51 2 = 0 := (by rw [ef52]; exact m42)
  have m58 : f51 3 = 0 := (by rw [ef52]; exact m43)
  have m59 : f51 4 = 0 := (by rw [ef52]; exact m44)
  have m60 : f51 5 = 0 := (by rw [ef52]; exact m45)
  have m61 : f51 7 = 0 := (by rw [ef52]; exact m46)
  have m62 : f51 9 = 0 := (by rw [ef52]; exact m48)
  have m63 : f51 10 = 0 := (by rw [ef52]; exact m49)
  have m64 : f51 11 = 0 := (by rw [ef52]; exact m50)
  refine lv_aload_n hx hb dX7_init_162 rfl (lv_at hl 0 rfl) ?_
  refine zz_get X Z114 0 rfl rfl (fun w h => List.mem_cons_of_mem _ (List.mem_append_right _ h)) 0 rfl (zz_m 5 rfl) rfl dX7_init_163 ?_
  refine lv_bipush (v := 9) hx hb dX7_init_166 (by decide) ?_
  refine lv_bipush (v := 10) hx hb dX7_init_168 (by decide) ?_
  refine zz_istN (WS' := fun f65 => [(mo, .inr (7, [.ref q1, .ref q3, .ref q5, .int 0, .ref q7, .ref q9, .ref q11, .ref q13, .ref q15, .ref q17, .ref q19, .ref q21, .ref q23, .ref q25, .int 0, .int 0, .int 0, .int 0, .int 0, .int 0, .int 0, .int 0, .int 0, .int 0, .int 0, .ref q27, .ref q29, .ref q31, .ref q33, .int 0, .ref q35])), (q1, .inl (k2, 3047, .inl f65)), (q3, .inl (k4, 3047, .inl (fun _ => 0))), (q5, .inl (k6, 3047, .inl (fun _ => 0))), (q7, .inl (k8, 4, .inl (fun _ => 0))), (q9, .inl (k10, 4, .inl (fun _ => 0))), (q11, .inl (k12, 96, .inl (fun _ => 0))), (q13, .inl (k14, 5, .inl (fun _ => 0))), (q15, .inl (k16, 5, .inl (fun _ => 0))), (q17, .inl (k18, 5, .inl (fun _ => 0))), (q19, .inl (k20, 5, .inl (fun _ => 0))), (q21, .inl (k22, 120, .inl (fun _ => 0))), (q23, .inl (k24, 47, .inl (fun _ => 0))), (q25, .inl (k26, 96, .inl (fun _ => 0))), (q27, .inl (k28, 128, .inl (fun _ => 0))), (q29, .inl (k30, 100, .inl (fun _ => 0))), (q31, .inl (k32, 24, .inl (fun _ => 0))), (q33, .inl (k34, 60, .inl (fun _ => 0))), (q35, .inl (k36, 60, .inl (fun _ => 0)))]) X Z114 1 0 rfl rfl (zz_in 9 3047 rfl) dX7_init_170 (fun _ => rfl) (fun f65 ef66 H115 locs116 Z117 => ?_)
  clear Z114
  have m67 : f65 9 = 10 := (by rw [ef66]; rfl)
  have m68 : f65 8 = 3 := (by rw [ef66]; exact m53)
  have m69 : f65 6 = 1 := (by rw [ef66]; exact m54)
  have m70 : f65 0 = 0 := (by rw [ef66]; exact m55)
  have m71 : f65 1 = 0 := (by rw [ef66]; exact m56)
  have m72 : f65 2 = 0 := (by rw [ef66]; exact m57)
  have m73 : f65 3 = 0 := (by rw [ef66]; exact m58)
  have m74 : f65 4 = 0 := (by rw [ef66]; exact m59)
  have m75 : f65 5 = 0 := (by rw [ef66]; exact m60)
  have m76 : f65 7 = 0 := (by rw [ef66]; exact m61)
  have m77 : f65 10 = 0 := (by rw [ef66]; exact m63)
  have m78 : f65 11 = 0 := (by rw [ef66]; exact m64)
  refine lv_iconst (v := 0) hx hb dX7_init_171 (by decide) ?_
  refine lv_istore_n (lv' := [(1, .int 0), (0, .ref mo)]) hx hb dX7_init_172 rfl hl (by decide) rfl (fun ls118 hl119 => ?_)
  clear hl
  refine lv_iload_n hx hb dX7_init_173 rfl (lv_at hl119 0 rfl) ?_
  refine lv_iconst (v := 4) hx hb dX7_init_174 (by decide) ?_
  refine lv_icmp_ge (tgt := 191) hx hb dX7_init_175 (by decide) (fun h => absurd h (by decide)) (fun _ => ?_)
  refine lv_aload_n hx hb dX7_init_178 rfl (lv_at hl119 1 rfl) ?_
  refine zz_get X Z117 0 rfl rfl (fun w h => List.mem_cons_of_mem _ (List.mem_append_right _ h)) 4 rfl (zz_m 8 rfl) rfl dX7_init_179 ?_
  refine lv_iload_n hx hb dX7_init_182 rfl (lv_at hl119 0 rfl) ?_
  refine lv_iconst (v := (-1)) hx hb dX7_init_183 (by decide) ?_
  refine zz_istN (WS' := fun f79 => [(mo, .inr (7, [.ref q1, .ref q3, .ref q5, .int 0, .ref q7, .ref q9, .ref q11, .ref q13, .ref q15, .ref q17, .ref q19, .ref q21, .ref q23, .ref q25, .int 0, .int 0, .int 0, .int 0, .int 0, .int 0, .int 0, .int 0, .int 0, .int 0, .int 0, .ref q27, .ref q29, .ref q31, .ref q33, .int 0, .ref q35])), (q1, .inl (k2, 3047, .inl f65)), (q3, .inl (k4, 3047, .inl (fun _ => 0))), (q5, .inl (k6, 3047, .inl (fun _ => 0))), (q7, .inl (k8, 4, .inl f79)), (q9, .inl (k10, 4, .inl (fun _ => 0))), (q11, .inl (k12, 96, .inl (fun _ => 0))), (q13, .inl (k14, 5, .inl (fun _ => 0))), (q15, .inl (k16, 5, .inl (fun _ => 0))), (q17, .inl (k18, 5, .inl (fun _ => 0))), (q19, .inl (k20, 5, .inl (fun _ => 0))), (q21, .inl (k22, 120, .inl (fun _ => 0))), (q23, .inl (k24, 47, .inl (fun _ => 0))), (q25, .inl (k26, 96, .inl (fun _ => 0))), (q27, .inl (k28, 128, .inl (fun _ => 0))), (q29, .inl (k30, 100, .inl (fun _ => 0))), (q31, .inl (k32, 24, .inl (fun _ => 0))), (q33, .inl (k34, 60, .inl (fun _ => 0))), (q35, .inl (k36, 60, .inl (fun _ => 0)))]) X Z117 4 3 rfl rfl (zz_in 0 4 rfl) dX7_init_184 (fun _ => rfl) (fun f79 ef80 H120 locs121 Z122 => ?_)
  clear Z117
  have m81 : f79 0 = (-1) := (by rw [ef80]; rfl)
  have m82 : f79 1 = 0 := (by rw [ef80]; exact rfl)
  have m83 : f79 2 = 0 := (by rw [ef80]; exact rfl)
  have m84 : f79 3 = 0 := (by rw [ef80]; exact rfl)
  refine lv_iinc (v := 1) (lv' := [(1, .int 1), (0, .ref mo)]) hx hb dX7_init_185 hl119 (k := 0) rfl (by decide) (by decide) rfl (fun ls123 hl124 => ?_)
  clear hl119
  refine lv_goto (tgt := 173) hx hb dX7_init_188 (by decide) ?_
  refine lv_iload_n hx hb dX7_init_173 rfl (lv_at hl124 0 rfl) ?_
  refine lv_iconst (v := 4) hx hb dX7_init_174 (by decide) ?_
  refine lv_icmp_ge (tgt := 191) hx hb dX7_init_175 (by decide) (fun h => absurd h (by decide)) (fun _ => ?_)
  refine lv_aload_n hx hb dX7_init_178 rfl (lv_at hl124 1 rfl) ?_
  refine zz_get X Z122 0 rfl rfl (fun w h => List.mem_cons_of_mem _ (List.mem_append_right _ h)) 4 rfl (zz_m 8 rfl) rfl dX7_init_179 ?_
  refine lv_iload_n hx hb dX7_init_182 rfl (lv_at hl124 0 rfl) ?_
  refine lv_iconst (v := (-1)) hx hb dX7_init_183 (by decide) ?_
  refine zz_istN (WS' := fun f85 => [(mo, .inr (7, [.ref q1, .ref q3, .ref q5, .int 0, .ref q7, .ref q9, .ref q11, .ref q13, .ref q15, .ref q17, .ref q19, .ref q21, .ref q23, .ref q25, .int 0, .int 0, .int 0, .int 0, .int 0, .int 0, .int 0, .int 0, .int 0, .int 0, .int 0, .ref q27, .ref q29, .ref q31, .ref q33, .int 0, .ref q35])), (q1, .inl (k2, 3047, .inl f65)), (q3, .inl (k4, 3047, .inl (fun _ => 0))), (q5, .inl (k6, 3047, .inl (fun _ => 0))), (q7, .inl (k8, 4, .inl f85)), (q9, .inl (k10, 4, .inl (fun _ => 0))), (q11, .inl (k12, 96, .inl (fun _ => 0))), (q13, .inl (k14, 5, .inl (fun _ => 0))), (q15, .inl (k16, 5, .inl (fun _ => 0))), (q17, .inl (k18, 5, .inl (fun _ => 0))), (q19, .inl (k20, 5, .inl (fun _ => 0))), (q21, .inl (k22, 120, .inl (fun _ => 0))), (q23, .inl (k24, 47, .inl (fun _ => 0))), (q25, .inl (k26, 96, .inl (fun _ => 0))), (q27, .inl (k28, 128, .inl (fun _ => 0))), (q29, .inl (k30, 100, .inl (fun _ => 0))), (q31, .inl (k32, 24, .inl (fun _ => 0))), (q33, .inl (k34, 60, .inl (fun _ => 0))), (q35, .inl (k36, 60, .inl (fun _ => 0)))]) X Z122 4 3 rfl rfl (zz_in 1 4 rfl) dX7_init_184 (fun _ => rfl) (fun f85 ef86 H125 locs126 Z127 => ?_)
  clear Z122
  have m87 : f85 1 = (-1) := (by rw [ef86]; rfl)
  have m88 : f85 0 = (-1) := (by rw [ef86]; exact m81)
  have m89 : f85 2 = 0 := (by rw [ef86]; exact m83)
  have m90 : f85 3 = 0 := (by rw [ef86]; exact m84)
  refine lv_iinc (v := 2) (lv' := [(1, .int 2), (0, .ref mo)]) hx hb dX7_init_185 hl124 (k := 0) rfl (by decide) (by decide) rfl (fun ls128 hl129 => ?_)
  clear hl124
  refine lv_goto (tgt := 173) hx hb dX7_init_188 (by decide) ?_
  refine lv_iload_n hx hb dX7_init_173 rfl (lv_at hl129 0 rfl) ?_
  refine lv_iconst (v := 4) hx hb dX7_init_174 (by decide) ?_
  refine lv_icmp_ge (tgt := 191) hx hb dX7_init_175 (by decide) (fun h => absurd h (by decide)) (fun _ => ?_)
  refine lv_aload_n hx hb dX7_init_178 rfl (lv_at hl129 1 rfl) ?_
  refine zz_get X Z127 0 rfl rfl (fun w h => List.mem_cons_of_mem _ (List.mem_append_right _ h)) 4 rfl (zz_m 8 rfl) rfl dX7_init_179 ?_
  refine lv_iload_n hx hb dX7_init_182 rfl (lv_at hl129 0 rfl) ?_
  refine lv_iconst (v := (-1)) hx hb dX7_init_183 (by decide) ?_
  refine zz_istN (WS' := fun f91 => [(mo, .inr (7, [.ref q1, .ref q3, .ref q5, .int 0, .ref q7, .ref q9, .ref q11, .ref q13, .ref q15, .ref q17, .ref q19, .ref q21, .ref q23, .ref q25, .int 0, .int 0, .int 0, .int 0, .int 0, .int 0, .int 0, .int 0, .int 0, .int 0, .int 0, .ref q27, .ref q29, .ref q31, .ref q33, .int 0, .ref q35])), (q1, .inl (k2, 3047, .inl f65)), (q3, .inl (k4, 3047, .inl (fun _ => 0))), (q5, .inl (k6, 3047, .inl (fun _ => 0))), (q7, .inl (k8, 4, .inl f91)), (q9, .inl (k10, 4, .inl (fun _ => 0))), (q11, .inl (k12, 96, .inl (fun _ => 0))), (q13, .inl (k14, 5, .inl (fun _ => 0))), (q15, .inl (k16, 5, .inl (fun _ => 0))), (q17, .inl (k18, 5, .inl (fun _ => 0))), (q19, .inl (k20, 5, .inl (fun _ => 0))), (q21, .inl (k22, 120, .inl (fun _ => 0))), (q23, .inl (k24, 47, .inl (fun _ => 0))), (q25, .inl (k26, 96, .inl (fun _ => 0))), (q27, .inl (k28, 128, .inl (fun _ => 0))), (q29, .inl (k30, 100, .inl (fun _ => 0))), (q31, .inl (k32, 24, .inl (fun _ => 0))), (q33, .inl (k34, 60, .inl (fun _ => 0))), (q35, .inl (k36, 60, .inl (fun _ => 0)))]) X Z127 4 3 rfl rfl (zz_in 2 4 rfl) dX7_init_184 (fun _ => rfl) (fun f91 ef92 H130 locs131 Z132 => ?_)
  clear Z127
  have m93 : f91 2 = (-1) := (by rw [ef92]; rfl)
  have m94 : f91 1 = (-1) := (by rw [ef92]; exact m87)
  have m95 : f91 0 = (-1) := (by rw [ef92]; exact m88)
  have m96 : f91 3 = 0 := (by rw [ef92]; exact m90)
  refine lv_iinc (v := 3) (lv' := [(1, .int 3), (0, .ref mo)]) hx hb dX7_init_185 hl129 (k := 0) rfl (by decide) (by decide) rfl (fun ls133 hl134 => ?_)
  clear hl129
  refine lv_goto (tgt := 173) hx hb dX7_init_188 (by decide) ?_
  refine lv_iload_n hx hb dX7_init_173 rfl (lv_at hl134 0 rfl) ?_
  refine lv_iconst (v := 4) hx hb dX7_init_174 (by decide) ?_
  refine lv_icmp_ge (tgt := 191) hx hb dX7_init_175 (by decide) (fun h => absurd h (by decide)) (fun _ => ?_)
  refine lv_aload_n hx hb dX7_init_178 rfl (lv_at hl134 1 rfl) ?_
  refine zz_get X Z132 0 rfl rfl (fun w h => List.mem_cons_of_mem _ (List.mem_append_right _ h)) 4 rfl (zz_m 8 rfl) rfl dX7_init_179 ?_
  refine lv_iload_n hx hb dX7_init_182 rfl (lv_at hl134 0 rfl) ?_
  refine lv_iconst (v := (-1)) hx hb dX7_init_183 (by decide) ?_
  refine zz_istN (WS' := fun f97 => [(mo, .inr (7, [.ref q1, .ref q3, .ref q5, .int 0, .ref q7, .ref q9, .ref q11, .ref q13, .ref q15, .ref q17, .ref q19, .ref q21, .ref q23, .ref q25, .int 0, .int 0, .int 0, .int 0, .int 0, .int 0, .int 0, .int 0, .int 0, .int 0, .int 0, .ref q27, .ref q29, .ref q31, .ref q33, .int 0, .ref q35])), (q1, .inl (k2, 3047, .inl f65)), (q3, .inl (k4, 3047, .inl (fun _ => 0))), (q5, .inl (k6, 3047, .inl (fun _ => 0))), (q7, .inl (k8, 4, .inl f97)), (q9, .inl (k10, 4, .inl (fun _ => 0))), (q11, .inl (k12, 96, .inl (fun _ => 0))), (q13, .inl (k14, 5, .inl (fun _ => 0))), (q15, .inl (k16, 5, .inl (fun _ => 0))), (q17, .inl (k18, 5, .inl (fun _ => 0))), (q19, .inl (k20, 5, .inl (fun _ => 0))), (q21, .inl (k22, 120, .inl (fun _ => 0))), (q23, .inl (k24, 47, .inl (fun _ => 0))), (q25, .inl (k26, 96, .inl (fun _ => 0))), (q27, .inl (k28, 128, .inl (fun _ => 0))), (q29, .inl (k30, 100, .inl (fun _ => 0))), (q31, .inl (k32, 24, .inl (fun _ => 0))), (q33, .inl (k34, 60, .inl (fun _ => 0))), (q35, .inl (k36, 60, .inl (fun _ => 0)))]) X Z132 4 3 rfl rfl (zz_in 3 4 rfl) dX7_init_184 (fun _ => rfl) (fun f97 ef98 H135 locs136 Z137 => ?_)
  clear Z132
  have m99 : f97 3 = (-1) := (by rw [ef98]; rfl)
  have m100 : f97 2 = (-1) := (by rw [ef98]; exact m93)
  have m101 : f97 1 = (-1) := (by rw [ef98]; exact m94)
  have m102 : f97 0 = (-1) := (by rw [ef98]; exact m95)
  refine lv_iinc (v := 4) (lv' := [(1, .int 4), (0, .ref mo)]) hx hb dX7_init_185 hl134 (k := 0) rfl (by decide) (by decide) rfl (fun ls138 hl139 => ?_)
  clear hl134
  refine lv_goto (tgt := 173) hx hb dX7_init_188 (by decide) ?_
  refine lv_iload_n hx hb dX7_init_173 rfl (lv_at hl139 0 rfl) ?_
  refine lv_iconst (v := 4) hx hb dX7_init_174 (by decide) ?_
  refine lv_icmp_ge (tgt := 191) hx hb dX7_init_175 (by decide) (fun _ => ?_) (fun h => absurd (by decide) h)
  exact zz_vret X hr hlk Z137 ((fun i => [mo, q1, q3, q5, q7, q9, q11, q13, q15, q17, q19, q21, q23, q25, q27, q29, q31, q33, q35].getD i 0), (fun i => [k2, k2, k4, k6, k8, k10, k12, k14, k16, k18, k20, k22, k24, k26, k28, k30, k32, k34, k36].getD i k2), (fun i => ([(fun _ => 0), f65, (fun _ => 0), (fun _ => 0), f97, (fun _ => 0), (fun _ => 0), (fun _ => 0), (fun _ => 0), (fun _ => 0), (fun _ => 0), (fun _ => 0), (fun _ => 0), (fun _ => 0), (fun _ => 0), (fun _ => 0), (fun _ => 0), (fun _ => 0), (fun _ => 0)] : List (Nat → Int32)).getD i (fun _ => 0))) ⟨⟨m70, m71, m72, m73, m74, m75, m69, m76, m68, m67, m77, m78, m102, m101, m100, m99⟩, rfl⟩ [0, 1, 2, 3, 4, 5, 6, 7, 8, 9, 10, 11, 12, 13, 14, 15, 16, 17, 18] [0, 1, 2, 3, 4, 5, 6, 7, 8, 9, 10, 11, 12, 13, 14, 15, 16, 17] (by decide +kernel) rfl rfl dX7_init_191
