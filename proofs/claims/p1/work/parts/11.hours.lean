set_option maxHeartbeats 4000000 in
set_option maxRecDepth 100000 in
theorem c_blow (l : Launch) (D : va_G) (b : Nat) (tx : Nat) (st : Nat) (ct : Nat) (n : Int32) (tc : Int32) (w : Int32) (fi : Int32) (h : Int32) (g : Int32) (mo : Int32) (co : Int32) (sp : Int32) (to : Int32) (z : Int32)  : zz_MV l yX0_blow wsX0_blow 2 46 0 0 D [.ref b] [(b, .inr (0, [.ref tx, .ref st, .ref ct, .int n, .int tc, .int w, .int fi, .int h, .int g, .int mo, .int co, .int sp, .int to, .int z]))] [] (fun (u : Int32 × Int32 × Int32) => match u with | (f9, t9, z9) => f9 = zz_bF fi z w g ∧ t9 = zz_bT to z g ∧ z9 = zz_bZ z g) (fun (u : Int32 × Int32 × Int32) => match u with | (f9, t9, z9) => [(b, .inr (0, [.ref tx, .ref st, .ref ct, .int n, .int tc, .int w, .int f9, .int h, .int g, .int mo, .int co, .int sp, .int t9, .int z9]))]) (fun (u : Int32 × Int32 × Int32) => match u with | (f9, t9, z9) => []) := by
  intro sz
  refine Met.ofW (cc := cX0_blow) (maxL := 2) (ret := none) (by decide) rfl ?_
  intro p e s m args below meth c s₁ B hml hv
  obtain ⟨rfl, hC⟩ := hv
  have hx := B.exec
  have hb := B.bytes
  have hr := B.returns
  have hts := atoms_spec (ws := wsX0_blow) B.pre
  have hown : s.vm.findClass RX0 = some m.cls := findClass_of_methodNamed B.named
  have hlk := B.notSynchronized
  have X : CallFix p m c cX0_blow 2 s _ wsX0_blow RX0 := ⟨hx, hb, hml, hown, hts⟩
  have Z := zz_enter hC
  generalize va_A [(b, .inr (0, [.ref tx, .ref st, .ref ct, .int n, .int tc, .int w, .int fi, .int h, .int g, .int mo, .int co, .int sp, .int to, .int z]))] sz = A at Z ⊢
  have hl := lv_entry ([.ref b]) (n := 2) (Nat.le_of_ble_eq_true rfl)
  rw [lg_entry_eq]
  generalize (lg_sl ([.ref b]) ++ List.replicate (2 - (lg_sl ([.ref b])).length) Slot.unset).toArray = ls at hl ⊢
  have hl : lv_has ls 2 [(0, .ref b)] := hl
  refine lv_aload_n hx hb dX0_blow_0 rfl (lv_at hl 0 rfl) ?_
  refine zz_ci (WC := [(b, .inr (0, [.ref tx, .ref st, .ref ct, .int n, .int tc, .int w, .int fi, .int h, .int g, .int mo, .int co, .int sp, .int to, .int z]))]) (TC := []) (WR := []) (TR := []) (k := 0) (n := 0) Z [0] [] [] [] rfl rfl (by decide +kernel) (by decide +kernel) (by decide +kernel) rfl rfl (fun Zc => va_runV (As := []) (rest := []) X (c_draw l D b tx st ct n tc w fi h g mo co sp to z s.heap.size) (cwV 0 hts gX0_blow_X0_draw rfl rfl rfl ⟨rfl, zh_X0_draw⟩ ⟨Nat.le_of_ble_eq_true rfl, Nat.le_of_ble_eq_true rfl⟩) (zz_pV (ci := 0) Zc 0 rfl rfl) rfl rfl hl.1 rfl (lv_room (Nat.le_of_ble_eq_true rfl)) dX0_blow_1 ⟨Nat.le_of_ble_eq_true rfl, Nat.le_of_ble_eq_true rfl⟩) rfl rfl (fun r3 u1 H1 locs2 hw2 Z3 => ?_)
  clear Z
  subst r3
  have Z4 : zz_S D A s [(b, .inr (0, [.ref tx, .ref st, .ref ct, .int n, .int tc, .int w, .int fi, .int h, .int g, .int mo, .int co, .int sp, .int to, .int (zz_nz z)]))] [] H1 locs2 := Z3
  clear Z3
  refine lv_bipush (v := 100) hx hb dX0_blow_4 (by decide) ?_
  refine lv_irem hx hb dX0_blow_6 (by decide) ?_
  refine lv_aload_n hx hb dX0_blow_7 rfl (lv_at hl 0 rfl) ?_
  refine zz_get X Z4 0 rfl rfl (fun w h => List.mem_cons_of_mem _ (List.mem_append_right _ h)) 8 rfl (zz_m 1 rfl) rfl dX0_blow_8 ?_
  refine lv_icmp_lt (tgt := 15) hx hb dX0_blow_11 (by decide) (fun b4 => ?_) (fun b4 => ?_)
  · refine lv_aload_n hx hb dX0_blow_15 rfl (lv_at hl 0 rfl) ?_
    refine zz_ci (WC := [(b, .inr (0, [.ref tx, .ref st, .ref ct, .int n, .int tc, .int w, .int fi, .int h, .int g, .int mo, .int co, .int sp, .int to, .int (zz_nz z)]))]) (TC := []) (WR := []) (TR := []) (k := 0) (n := 0) Z4 [0] [] [] [] rfl rfl (by decide +kernel) (by decide +kernel) (by decide +kernel) rfl rfl (fun Zc => va_runV (As := []) (rest := []) X (c_draw l D b tx st ct n tc w fi h g mo co sp to (zz_nz z) H1.size) (cwV 0 hts gX0_blow_X0_draw rfl rfl rfl ⟨rfl, zh_X0_draw⟩ ⟨Nat.le_of_ble_eq_true rfl, Nat.le_of_ble_eq_true rfl⟩) (zz_pV (ci := 0) Zc 0 rfl rfl) rfl rfl hl.1 rfl (lv_room (Nat.le_of_ble_eq_true rfl)) dX0_blow_16 ⟨Nat.le_of_ble_eq_true rfl, Nat.le_of_ble_eq_true rfl⟩) rfl rfl (fun r7 u5 H5 locs6 hw6 Z7 => ?_)
    clear Z4
    subst r7
    have Z8 : zz_S D A s [(b, .inr (0, [.ref tx, .ref st, .ref ct, .int n, .int tc, .int w, .int fi, .int h, .int g, .int mo, .int co, .int sp, .int to, .int (zz_nz (zz_nz z))]))] [] H5 locs6 := Z7
    clear Z7
    refine lv_iconst (v := 3) hx hb dX0_blow_19 (by decide) ?_
    refine lv_irem hx hb dX0_blow_20 (by decide) ?_
    refine lv_iconst (v := 1) hx hb dX0_blow_21 (by decide) ?_
    refine lv_isub hx hb dX0_blow_22 ?_
    refine lv_topi (fun y8 ey9 => ?_)
    have ey9 : y8 = zz_by (zz_nz z) := ey9
    subst ey9
    refine lv_istore_n (lv' := [(1, .int (zz_by (zz_nz z))), (0, .ref b)]) hx hb dX0_blow_23 rfl hl (by decide) rfl (fun ls9 hl10 => ?_)
    clear hl
    refine lv_aload_n hx hb dX0_blow_24 rfl (lv_at hl10 1 rfl) ?_
    refine lv_aload_n hx hb dX0_blow_25 rfl (lv_at hl10 1 rfl) ?_
    refine zz_get X Z8 0 rfl rfl (fun w h => List.mem_cons_of_mem _ (List.mem_append_right _ h)) 6 rfl (zz_m 2 rfl) rfl dX0_blow_26 ?_
    refine lv_iload_n hx hb dX0_blow_29 rfl (lv_at hl10 0 rfl) ?_
    refine lv_iadd hx hb dX0_blow_30 ?_
    refine lv_iconst (v := 0) hx hb dX0_blow_31 (by decide) ?_
    refine lv_aload_n hx hb dX0_blow_32 rfl (lv_at hl10 1 rfl) ?_
    refine zz_ci (WC := [(b, .inr (0, [.ref tx, .ref st, .ref ct, .int n, .int tc, .int w, .int fi, .int h, .int g, .int mo, .int co, .int sp, .int to, .int (zz_nz (zz_nz z))]))]) (TC := []) (WR := []) (TR := []) (k := 0) (n := 0) Z8 [0] [] [] [] rfl rfl (by decide +kernel) (by decide +kernel) (by decide +kernel) rfl rfl (fun Zc => va_runV (As := []) (rest := [.int 0, .int (fi + (zz_by (zz_nz z))), .ref b]) X (c_lastFirst l D b tx st ct n tc w fi h g mo co sp to (zz_nz (zz_nz z)) H5.size) (cwV 0 hts gX0_blow_X0_lastFirst rfl rfl rfl ⟨rfl, zh_X0_lastFirst⟩ ⟨Nat.le_of_ble_eq_true rfl, Nat.le_of_ble_eq_true rfl⟩) (zz_pV (ci := 0) Zc 0 rfl rfl) rfl rfl hl10.1 rfl (lv_room (Nat.le_of_ble_eq_true rfl)) dX0_blow_33 ⟨Nat.le_of_ble_eq_true rfl, Nat.le_of_ble_eq_true rfl⟩) rfl rfl (fun r12 u10 H11 locs12 hw11 Z13 => ?_)
    clear Z8
    subst r12
    have Z14 : zz_S D A s [(b, .inr (0, [.ref tx, .ref st, .ref ct, .int n, .int tc, .int w, .int fi, .int h, .int g, .int mo, .int co, .int sp, .int to, .int (zz_nz (zz_nz z))]))] [] H11 locs12 := Z13
    clear Z13
    refine zz_ci (WC := []) (TC := []) (WR := [(b, .inr (0, [.ref tx, .ref st, .ref ct, .int n, .int tc, .int w, .int fi, .int h, .int g, .int mo, .int co, .int sp, .int to, .int (zz_nz (zz_nz z))]))]) (TR := []) (k := 0) (n := 0) Z14 [] [0] [] [] rfl rfl (by decide +kernel) (by decide +kernel) (by decide +kernel) rfl rfl (fun Zc => va_runSN (As := [.int (fi + (zz_by (zz_nz z))), .int 0, .int (12 - w)]) (rest := [.ref b]) X (c_held l D (fi + (zz_by (zz_nz z))) 0 (12 - w) H11.size) ⟨va_cnB 3 hts gX0_blow_X6_held_n120 rfl rfl rfl (zz_nw (q := (RX0, 120, yX6_held, RX6)) Z14.2.2.2.2.2 3 rfl) (hts _ (zz_m 17 rfl)) zh_X6_held ⟨Nat.le_of_ble_eq_true rfl, Nat.le_of_ble_eq_true rfl⟩, hts _ (zz_m 16 rfl), trivial⟩ (zz_pS Zc) rfl rfl hl10.1 rfl (lv_room (Nat.le_of_ble_eq_true rfl)) dX0_blow_36 ⟨Nat.le_of_ble_eq_true rfl, Nat.le_of_ble_eq_true rfl⟩) rfl rfl (fun r15 u13 H15 locs16 hw14 Z17 => ?_)
    clear Z14
    subst r15
    have Z18 : zz_S D A s [(b, .inr (0, [.ref tx, .ref st, .ref ct, .int n, .int tc, .int w, .int fi, .int h, .int g, .int mo, .int co, .int sp, .int to, .int (zz_nz (zz_nz z))]))] [] H15 locs16 := Z17
    clear Z17
    refine zz_put (WS' := [(b, .inr (0, [.ref tx, .ref st, .ref ct, .int n, .int tc, .int w, .int (zz_held (fi + (zz_by (zz_nz z))) 0 (12 - w)), .int h, .int g, .int mo, .int co, .int sp, .int to, .int (zz_nz (zz_nz z))]))]) X Z18 0 rfl rfl (fun w h => List.mem_cons_of_mem _ (List.mem_append_right _ h)) tyX0 tyX0_ok nmX0 6 rfl (zz_m 2 rfl) rfl rfl rfl rfl dX0_blow_39 rfl (fun H19 locs20 Z21 => ?_)
    clear Z18
    refine lv_iload_n hx hb dX0_blow_42 rfl (lv_at hl10 0 rfl) ?_
    refine lv_if_eq (tgt := 56) hx hb dX0_blow_43 (by decide) (fun b16 => ?_) (fun b16 => ?_)
    · exact zz_vret X hr hlk Z21 (zz_held (fi + (zz_by (zz_nz z))) 0 (12 - w), to, (zz_nz (zz_nz z))) ⟨(if_pos b4).symm, (((if_pos b16) : (if zz_by (zz_nz z) = 0 then to else to + 1) = _).symm.trans (if_pos b4).symm), (if_pos b4).symm⟩ [0] [] (by decide +kernel) rfl rfl dX0_blow_56
    · refine lv_aload_n hx hb dX0_blow_46 rfl (lv_at hl10 1 rfl) ?_
      refine lv_dup hx hb dX0_blow_47 rfl ?_
      refine zz_get X Z21 0 rfl rfl (fun w h => List.mem_cons_of_mem _ (List.mem_append_right _ h)) 12 rfl (zz_m 3 rfl) rfl dX0_blow_48 ?_
      refine lv_iconst (v := 1) hx hb dX0_blow_51 (by decide) ?_
      refine lv_iadd hx hb dX0_blow_52 ?_
      refine zz_put (WS' := [(b, .inr (0, [.ref tx, .ref st, .ref ct, .int n, .int tc, .int w, .int (zz_held (fi + (zz_by (zz_nz z))) 0 (12 - w)), .int h, .int g, .int mo, .int co, .int sp, .int (to + 1), .int (zz_nz (zz_nz z))]))]) X Z21 0 rfl rfl (fun w h => List.mem_cons_of_mem _ (List.mem_append_right _ h)) tyX0 tyX0_ok nmX0 12 rfl (zz_m 3 rfl) rfl rfl rfl rfl dX0_blow_53 rfl (fun H22 locs23 Z24 => ?_)
      clear Z21
      exact zz_vret X hr hlk Z24 (zz_held (fi + (zz_by (zz_nz z))) 0 (12 - w), to + 1, (zz_nz (zz_nz z))) ⟨(if_pos b4).symm, (((if_neg b16) : (if zz_by (zz_nz z) = 0 then to else to + 1) = _).symm.trans (if_pos b4).symm), (if_pos b4).symm⟩ [0] [] (by decide +kernel) rfl rfl dX0_blow_56
  · exact zz_vret X hr hlk Z4 (fi, to, zz_nz z) ⟨(if_neg b4).symm, (if_neg b4).symm, (if_neg b4).symm⟩ [0] [] (by decide +kernel) rfl rfl dX0_blow_14

set_option maxHeartbeats 4000000 in
set_option maxRecDepth 100000 in
theorem c_pass0 (l : Launch) (D : va_G) (b : Nat) (tx : Nat) (st : Nat) (ct : Nat) (tc : Int32) (w : Int32) (fi : Int32) (h : Int32) (g : Int32) (mo : Int32) (co : Int32) (sp : Int32) (to : Int32) (z : Int32)  : zz_MV l yX0_passHour wsX0_passHour 3 67 0 0 D [.ref b, .int 0] [(b, .inr (0, [.ref tx, .ref st, .ref ct, .int 0, .int tc, .int w, .int fi, .int h, .int g, .int mo, .int co, .int sp, .int to, .int z]))] [] (fun (u : Int32 × Int32 × Int32) => match u with | (f9, t9, z9) => f9 = zz_bF fi z w g ∧ t9 = zz_bT to z g ∧ z9 = zz_bZ z g) (fun (u : Int32 × Int32 × Int32) => match u with | (f9, t9, z9) => [(b, .inr (0, [.ref tx, .ref st, .ref ct, .int 0, .int tc, .int w, .int f9, .int (h + 1), .int g, .int mo, .int co, .int sp, .int t9, .int z9]))]) (fun (u : Int32 × Int32 × Int32) => match u with | (f9, t9, z9) => []) := by
  intro sz
  refine Met.ofW (cc := cX0_passHour) (maxL := 5) (ret := none) (by decide) rfl ?_
  intro p e s m args below meth c s₁ B hml hv
  obtain ⟨rfl, hC⟩ := hv
  have hx := B.exec
  have hb := B.bytes
  have hr := B.returns
  have hts := atoms_spec (ws := wsX0_passHour) B.pre
  have hown : s.vm.findClass RX0 = some m.cls := findClass_of_methodNamed B.named
  have hlk := B.notSynchronized
  have X : CallFix p m c cX0_passHour 5 s _ wsX0_passHour RX0 := ⟨hx, hb, hml, hown, hts⟩
  have Z := zz_enter hC
  generalize va_A [(b, .inr (0, [.ref tx, .ref st, .ref ct, .int 0, .int tc, .int w, .int fi, .int h, .int g, .int mo, .int co, .int sp, .int to, .int z]))] sz = A at Z ⊢
  have hl := lv_entry ([.ref b, .int 0]) (n := 5) (Nat.le_of_ble_eq_true rfl)
  rw [lg_entry_eq]
  generalize (lg_sl ([.ref b, .int 0]) ++ List.replicate (5 - (lg_sl ([.ref b, .int 0])).length) Slot.unset).toArray = ls at hl ⊢
  have hl : lv_has ls 5 [(0, .ref b), (1, .int 0)] := hl
  refine lv_aload_n hx hb dX0_passHour_0 rfl (lv_at hl 0 rfl) ?_
  refine lv_aload_n hx hb dX0_passHour_1 rfl (lv_at hl 0 rfl) ?_
  refine lv_iload_n hx hb dX0_passHour_2 rfl (lv_at hl 1 rfl) ?_
  refine zz_ci (WC := [(b, .inr (0, [.ref tx, .ref st, .ref ct, .int 0, .int tc, .int w, .int fi, .int h, .int g, .int mo, .int co, .int sp, .int to, .int z]))]) (TC := []) (WR := []) (TR := []) (k := 0) (n := 0) Z [0] [] [] [] rfl rfl (by decide +kernel) (by decide +kernel) (by decide +kernel) rfl rfl (fun Zc => va_runV (As := [.int 0]) (rest := [.ref b]) X (c_hauled0 l D b tx st ct 0 tc w fi h g mo co sp to z s.heap.size) (cwV 1 hts gX0_passHour_X0_hauledTo rfl rfl rfl ⟨rfl, zh_X0_hauledTo⟩ ⟨Nat.le_of_ble_eq_true rfl, Nat.le_of_ble_eq_true rfl⟩) (zz_pV (ci := 0) Zc 0 rfl rfl) rfl rfl hl.1 rfl (lv_room (Nat.le_of_ble_eq_true rfl)) dX0_passHour_3 ⟨Nat.le_of_ble_eq_true rfl, Nat.le_of_ble_eq_true rfl⟩) rfl rfl (fun r3 u1 H1 locs2 hw2 Z3 => ?_)
  clear Z
  subst r3
  have Z4 : zz_S D A s [(b, .inr (0, [.ref tx, .ref st, .ref ct, .int 0, .int tc, .int w, .int fi, .int h, .int g, .int mo, .int co, .int sp, .int to, .int z]))] [] H1 locs2 := Z3
  clear Z3
  refine zz_put (WS' := [(b, .inr (0, [.ref tx, .ref st, .ref ct, .int 0, .int tc, .int w, .int fi, .int h, .int g, .int mo, .int co, .int sp, .int to, .int z]))]) X Z4 0 rfl rfl (fun w h => List.mem_cons_of_mem _ (List.mem_append_left _ (List.mem_append_left _ (List.mem_append_right _ h)))) tyX0 tyX0_ok nmX0 6 rfl (zz_m 1 rfl) rfl rfl rfl rfl dX0_passHour_6 rfl (fun H5 locs6 Z7 => ?_)
  clear Z4
  refine lv_iconst (v := 0) hx hb dX0_passHour_9 (by decide) ?_
  refine lv_istore_n (lv' := [(2, .int 0), (0, .ref b), (1, .int 0)]) hx hb dX0_passHour_10 rfl hl (by decide) rfl (fun ls8 hl9 => ?_)
  clear hl
  refine lv_iload_n hx hb dX0_passHour_11 rfl (lv_at hl9 0 rfl) ?_
  refine lv_aload_n hx hb dX0_passHour_12 rfl (lv_at hl9 1 rfl) ?_
  refine zz_get X Z7 0 rfl rfl (fun w h => List.mem_cons_of_mem _ (List.mem_append_left _ (List.mem_append_left _ (List.mem_append_right _ h)))) 3 rfl (zz_m 2 rfl) rfl dX0_passHour_13 ?_
  refine lv_icmp_ge (tgt := 85) hx hb dX0_passHour_16 (by decide) (fun _ => ?_) (fun h => absurd (by decide) h)
  refine lv_aload_n hx hb dX0_passHour_85 rfl (lv_at hl9 1 rfl) ?_
  refine zz_cv (WC := [(b, .inr (0, [.ref tx, .ref st, .ref ct, .int 0, .int tc, .int w, .int fi, .int h, .int g, .int mo, .int co, .int sp, .int to, .int z]))]) (TC := []) (WR := []) (TR := []) (k := 0) (n := 0) Z7 [0] [] [] [] rfl rfl (by decide +kernel) (by decide +kernel) (by decide +kernel) rfl rfl (fun Zc => va_runV (As := []) (rest := []) X (c_blow l D b tx st ct 0 tc w fi h g mo co sp to z H5.size) (cwV 0 hts gX0_passHour_X0_blow rfl rfl rfl ⟨rfl, zh_X0_blow⟩ ⟨Nat.le_of_ble_eq_true rfl, Nat.le_of_ble_eq_true rfl⟩) (zz_pV (ci := 0) Zc 0 rfl rfl) rfl rfl hl9.1 rfl (lv_room (Nat.le_of_ble_eq_true rfl)) dX0_passHour_86 ⟨Nat.le_of_ble_eq_true rfl, Nat.le_of_ble_eq_true rfl⟩) rfl rfl (fun u4 H10 locs11 hw5 Z12 => ?_)
  clear Z7
  obtain ⟨f97, t98, z99⟩ := u4
  dsimp only at hw5 Z12
  obtain ⟨rfl, rfl, rfl⟩ := hw5
  have Z13 : zz_S D A s [(b, .inr (0, [.ref tx, .ref st, .ref ct, .int 0, .int tc, .int w, .int (zz_bF fi z w g), .int h, .int g, .int mo, .int co, .int sp, .int (zz_bT to z g), .int (zz_bZ z g)]))] [] H10 locs11 := Z12
  clear Z12
  refine lv_aload_n hx hb dX0_passHour_89 rfl (lv_at hl9 1 rfl) ?_
  refine lv_dup hx hb dX0_passHour_90 rfl ?_
  refine zz_get X Z13 0 rfl rfl (fun w h => List.mem_cons_of_mem _ (List.mem_append_left _ (List.mem_append_left _ (List.mem_append_right _ h)))) 7 rfl (zz_m 9 rfl) rfl dX0_passHour_91 ?_
  refine lv_iconst (v := 1) hx hb dX0_passHour_94 (by decide) ?_
  refine lv_iadd hx hb dX0_passHour_95 ?_
  refine zz_put (WS' := [(b, .inr (0, [.ref tx, .ref st, .ref ct, .int 0, .int tc, .int w, .int (zz_bF fi z w g), .int (h + 1), .int g, .int mo, .int co, .int sp, .int (zz_bT to z g), .int (zz_bZ z g)]))]) X Z13 0 rfl rfl (fun w h => List.mem_cons_of_mem _ (List.mem_append_left _ (List.mem_append_left _ (List.mem_append_right _ h)))) tyX0 tyX0_ok nmX0 7 rfl (zz_m 9 rfl) rfl rfl rfl rfl dX0_passHour_96 rfl (fun H14 locs15 Z16 => ?_)
  clear Z13
  exact zz_vret X hr hlk Z16 (zz_bF fi z w g, zz_bT to z g, zz_bZ z g) ⟨rfl, rfl, rfl⟩ [0] [] (by decide +kernel) rfl rfl dX0_passHour_99

set_option maxHeartbeats 4000000 in
set_option maxRecDepth 100000 in
theorem c_pass1 (l : Launch) (D : va_G) (b : Nat) (tx : Nat) (st : Nat) (ct : Nat) (tc : Int32) (w : Int32) (fi : Int32) (h : Int32) (g : Int32) (mo : Int32) (co : Int32) (sp : Int32) (to : Int32) (z : Int32)  : zz_MV l yX0_passHour wsX0_passHour 3 67 0 0 D [.ref b, .int 1] [(b, .inr (0, [.ref tx, .ref st, .ref ct, .int 0, .int tc, .int w, .int fi, .int h, .int g, .int mo, .int co, .int sp, .int to, .int z]))] [] (fun (u : Int32 × Int32 × Int32) => match u with | (f9, t9, z9) => f9 = zz_bF (if fi - 1 < 0 then 0 else fi - 1) z w g ∧ t9 = zz_bT to z g ∧ z9 = zz_bZ z g) (fun (u : Int32 × Int32 × Int32) => match u with | (f9, t9, z9) => [(b, .inr (0, [.ref tx, .ref st, .ref ct, .int 0, .int tc, .int w, .int f9, .int (h + 1), .int g, .int mo, .int co, .int sp, .int t9, .int z9]))]) (fun (u : Int32 × Int32 × Int32) => match u with | (f9, t9, z9) => []) := by
  intro sz
  refine Met.ofW (cc := cX0_passHour) (maxL := 5) (ret := none) (by decide) rfl ?_
  intro p e s m args below meth c s₁ B hml hv
  obtain ⟨rfl, hC⟩ := hv
  have hx := B.exec
  have hb := B.bytes
  have hr := B.returns
  have hts := atoms_spec (ws := wsX0_passHour) B.pre
  have hown : s.vm.findClass RX0 = some m.cls := findClass_of_methodNamed B.named
  have hlk := B.notSynchronized
  have X : CallFix p m c cX0_passHour 5 s _ wsX0_passHour RX0 := ⟨hx, hb, hml, hown, hts⟩
  have Z := zz_enter hC
  generalize va_A [(b, .inr (0, [.ref tx, .ref st, .ref ct, .int 0, .int tc, .int w, .int fi, .int h, .int g, .int mo, .int co, .int sp, .int to, .int z]))] sz = A at Z ⊢
  have hl := lv_entry ([.ref b, .int 1]) (n := 5) (Nat.le_of_ble_eq_true rfl)
  rw [lg_entry_eq]
  generalize (lg_sl ([.ref b, .int 1]) ++ List.replicate (5 - (lg_sl ([.ref b, .int 1])).length) Slot.unset).toArray = ls at hl ⊢
  have hl : lv_has ls 5 [(0, .ref b), (1, .int 1)] := hl
  refine lv_aload_n hx hb dX0_passHour_0 rfl (lv_at hl 0 rfl) ?_
  refine lv_aload_n hx hb dX0_passHour_1 rfl (lv_at hl 0 rfl) ?_
  refine lv_iload_n hx hb dX0_passHour_2 rfl (lv_at hl 1 rfl) ?_
  refine zz_ci (WC := [(b, .inr (0, [.ref tx, .ref st, .ref ct, .int 0, .int tc, .int w, .int fi, .int h, .int g, .int mo, .int co, .int sp, .int to, .int z]))]) (TC := []) (WR := []) (TR := []) (k := 0) (n := 0) Z [0] [] [] [] rfl rfl (by decide +kernel) (by decide +kernel) (by decide +kernel) rfl rfl (fun Zc => va_runV (As := [.int 1]) (rest := [.ref b]) X (c_hauled1 l D b tx st ct 0 tc w fi h g mo co sp to z s.heap.size) (cwV 1 hts gX0_passHour_X0_hauledTo rfl rfl rfl ⟨rfl, zh_X0_hauledTo⟩ ⟨Nat.le_of_ble_eq_true rfl, Nat.le_of_ble_eq_true rfl⟩) (zz_pV (ci := 0) Zc 0 rfl rfl) rfl rfl hl.1 rfl (lv_room (Nat.le_of_ble_eq_true rfl)) dX0_passHour_3 ⟨Nat.le_of_ble_eq_true rfl, Nat.le_of_ble_eq_true rfl⟩) rfl rfl (fun r3 u1 H1 locs2 hw2 Z3 => ?_)
  clear Z
  subst r3
  have Z4 : zz_S D A s [(b, .inr (0, [.ref tx, .ref st, .ref ct, .int 0, .int tc, .int w, .int fi, .int h, .int g, .int mo, .int co, .int sp, .int to, .int z]))] [] H1 locs2 := Z3
  clear Z3
  refine zz_put (WS' := [(b, .inr (0, [.ref tx, .ref st, .ref ct, .int 0, .int tc, .int w, .int (if fi - 1 < 0 then 0 else fi - 1), .int h, .int g, .int mo, .int co, .int sp, .int to, .int z]))]) X Z4 0 rfl rfl (fun w h => List.mem_cons_of_mem _ (List.mem_append_left _ (List.mem_append_left _ (List.mem_append_right _ h)))) tyX0 tyX0_ok nmX0 6 rfl (zz_m 1 rfl) rfl rfl rfl rfl dX0_passHour_6 rfl (fun H5 locs6 Z7 => ?_)
  clear Z4
  refine lv_iconst (v := 0) hx hb dX0_passHour_9 (by decide) ?_
  refine lv_istore_n (lv' := [(2, .int 0), (0, .ref b), (1, .int 1)]) hx hb dX0_passHour_10 rfl hl (by decide) rfl (fun ls8 hl9 => ?_)
  clear hl
  refine lv_iload_n hx hb dX0_passHour_11 rfl (lv_at hl9 0 rfl) ?_
  refine lv_aload_n hx hb dX0_passHour_12 rfl (lv_at hl9 1 rfl) ?_
  refine zz_get X Z7 0 rfl rfl (fun w h => List.mem_cons_of_mem _ (List.mem_append_left _ (List.mem_append_left _ (List.mem_append_right _ h)))) 3 rfl (zz_m 2 rfl) rfl dX0_passHour_13 ?_
  refine lv_icmp_ge (tgt := 85) hx hb dX0_passHour_16 (by decide) (fun _ => ?_) (fun h => absurd (by decide) h)
  refine lv_aload_n hx hb dX0_passHour_85 rfl (lv_at hl9 1 rfl) ?_
  refine zz_cv (WC := [(b, .inr (0, [.ref tx, .ref st, .ref ct, .int 0, .int tc, .int w, .int (if fi - 1 < 0 then 0 else fi - 1), .int h, .int g, .int mo, .int co, .int sp, .int to, .int z]))]) (TC := []) (WR := []) (TR := []) (k := 0) (n := 0) Z7 [0] [] [] [] rfl rfl (by decide +kernel) (by decide +kernel) (by decide +kernel) rfl rfl (fun Zc => va_runV (As := []) (rest := []) X (c_blow l D b tx st ct 0 tc w (if fi - 1 < 0 then 0 else fi - 1) h g mo co sp to z H5.size) (cwV 0 hts gX0_passHour_X0_blow rfl rfl rfl ⟨rfl, zh_X0_blow⟩ ⟨Nat.le_of_ble_eq_true rfl, Nat.le_of_ble_eq_true rfl⟩) (zz_pV (ci := 0) Zc 0 rfl rfl) rfl rfl hl9.1 rfl (lv_room (Nat.le_of_ble_eq_true rfl)) dX0_passHour_86 ⟨Nat.le_of_ble_eq_true rfl, Nat.le_of_ble_eq_true rfl⟩) rfl rfl (fun u4 H10 locs11 hw5 Z12 => ?_)
  clear Z7
  obtain ⟨f97, t98, z99⟩ := u4
  dsimp only at hw5 Z12
  obtain ⟨rfl, rfl, rfl⟩ := hw5
  have Z13 : zz_S D A s [(b, .inr (0, [.ref tx, .ref st, .ref ct, .int 0, .int tc, .int w, .int (zz_bF (if fi - 1 < 0 then 0 else fi - 1) z w g), .int h, .int g, .int mo, .int co, .int sp, .int (zz_bT to z g), .int (zz_bZ z g)]))] [] H10 locs11 := Z12
  clear Z12
  refine lv_aload_n hx hb dX0_passHour_89 rfl (lv_at hl9 1 rfl) ?_
  refine lv_dup hx hb dX0_passHour_90 rfl ?_
  refine zz_get X Z13 0 rfl rfl (fun w h => List.mem_cons_of_mem _ (List.mem_append_left _ (List.mem_append_left _ (List.mem_append_right _ h)))) 7 rfl (zz_m 9 rfl) rfl dX0_passHour_91 ?_
  refine lv_iconst (v := 1) hx hb dX0_passHour_94 (by decide) ?_
  refine lv_iadd hx hb dX0_passHour_95 ?_
  refine zz_put (WS' := [(b, .inr (0, [.ref tx, .ref st, .ref ct, .int 0, .int tc, .int w, .int (zz_bF (if fi - 1 < 0 then 0 else fi - 1) z w g), .int (h + 1), .int g, .int mo, .int co, .int sp, .int (zz_bT to z g), .int (zz_bZ z g)]))]) X Z13 0 rfl rfl (fun w h => List.mem_cons_of_mem _ (List.mem_append_left _ (List.mem_append_left _ (List.mem_append_right _ h)))) tyX0 tyX0_ok nmX0 7 rfl (zz_m 9 rfl) rfl rfl rfl rfl dX0_passHour_96 rfl (fun H14 locs15 Z16 => ?_)
  clear Z13
  exact zz_vret X hr hlk Z16 (zz_bF (if fi - 1 < 0 then 0 else fi - 1) z w g, zz_bT to z g, zz_bZ z g) ⟨rfl, rfl, rfl⟩ [0] [] (by decide +kernel) rfl rfl dX0_passHour_99

set_option maxHeartbeats 4000000 in
set_option maxRecDepth 100000 in
theorem c_pass2 (l : Launch) (D : va_G) (b : Nat) (tx : Nat) (st : Nat) (ct : Nat) (tc : Int32) (w : Int32) (fi : Int32) (h : Int32) (g : Int32) (mo : Int32) (co : Int32) (sp : Int32) (to : Int32) (z : Int32)  : zz_MV l yX0_passHour wsX0_passHour 3 67 0 0 D [.ref b, .int 2] [(b, .inr (0, [.ref tx, .ref st, .ref ct, .int 0, .int tc, .int w, .int fi, .int h, .int g, .int mo, .int co, .int sp, .int to, .int z]))] [] (fun (u : Int32 × Int32 × Int32) => match u with | (f9, t9, z9) => f9 = zz_bF (if 12 - w < fi + 1 then 12 - w else fi + 1) z w g ∧ t9 = zz_bT to z g ∧ z9 = zz_bZ z g) (fun (u : Int32 × Int32 × Int32) => match u with | (f9, t9, z9) => [(b, .inr (0, [.ref tx, .ref st, .ref ct, .int 0, .int tc, .int w, .int f9, .int (h + 1), .int g, .int mo, .int co, .int sp, .int t9, .int z9]))]) (fun (u : Int32 × Int32 × Int32) => match u with | (f9, t9, z9) => []) := by
  intro sz
  refine Met.ofW (cc := cX0_passHour) (maxL := 5) (ret := none) (by decide) rfl ?_
  intro p e s m args below meth c s₁ B hml hv
  obtain ⟨rfl, hC⟩ := hv
  have hx := B.exec
  have hb := B.bytes
  have hr := B.returns
  have hts := atoms_spec (ws := wsX0_passHour) B.pre
  have hown : s.vm.findClass RX0 = some m.cls := findClass_of_methodNamed B.named
  have hlk := B.notSynchronized
  have X : CallFix p m c cX0_passHour 5 s _ wsX0_passHour RX0 := ⟨hx, hb, hml, hown, hts⟩
  have Z := zz_enter hC
  generalize va_A [(b, .inr (0, [.ref tx, .ref st, .ref ct, .int 0, .int tc, .int w, .int fi, .int h, .int g, .int mo, .int co, .int sp, .int to, .int z]))] sz = A at Z ⊢
  have hl := lv_entry ([.ref b, .int 2]) (n := 5) (Nat.le_of_ble_eq_true rfl)
  rw [lg_entry_eq]
  generalize (lg_sl ([.ref b, .int 2]) ++ List.replicate (5 - (lg_sl ([.ref b, .int 2])).length) Slot.unset).toArray = ls at hl ⊢
  have hl : lv_has ls 5 [(0, .ref b), (1, .int 2)] := hl
  refine lv_aload_n hx hb dX0_passHour_0 rfl (lv_at hl 0 rfl) ?_
  refine lv_aload_n hx hb dX0_passHour_1 rfl (lv_at hl 0 rfl) ?_
  refine lv_iload_n hx hb dX0_passHour_2 rfl (lv_at hl 1 rfl) ?_
  refine zz_ci (WC := [(b, .inr (0, [.ref tx, .ref st, .ref ct, .int 0, .int tc, .int w, .int fi, .int h, .int g, .int mo, .int co, .int sp, .int to, .int z]))]) (TC := []) (WR := []) (TR := []) (k := 0) (n := 0) Z [0] [] [] [] rfl rfl (by decide +kernel) (by decide +kernel) (by decide +kernel) rfl rfl (fun Zc => va_runV (As := [.int 2]) (rest := [.ref b]) X (c_hauled2 l D b tx st ct 0 tc w fi h g mo co sp to z s.heap.size) (cwV 1 hts gX0_passHour_X0_hauledTo rfl rfl rfl ⟨rfl, zh_X0_hauledTo⟩ ⟨Nat.le_of_ble_eq_true rfl, Nat.le_of_ble_eq_true rfl⟩) (zz_pV (ci := 0) Zc 0 rfl rfl) rfl rfl hl.1 rfl (lv_room (Nat.le_of_ble_eq_true rfl)) dX0_passHour_3 ⟨Nat.le_of_ble_eq_true rfl, Nat.le_of_ble_eq_true rfl⟩) rfl rfl (fun r3 u1 H1 locs2 hw2 Z3 => ?_)
  clear Z
  subst r3
  have Z4 : zz_S D A s [(b, .inr (0, [.ref tx, .ref st, .ref ct, .int 0, .int tc, .int w, .int fi, .int h, .int g, .int mo, .int co, .int sp, .int to, .int z]))] [] H1 locs2 := Z3
  clear Z3
  refine zz_put (WS' := [(b, .inr (0, [.ref tx, .ref st, .ref ct, .int 0, .int tc, .int w, .int (if 12 - w < fi + 1 then 12 - w else fi + 1), .int h, .int g, .int mo, .int co, .int sp, .int to, .int z]))]) X Z4 0 rfl rfl (fun w h => List.mem_cons_of_mem _ (List.mem_append_left _ (List.mem_append_left _ (List.mem_append_right _ h)))) tyX0 tyX0_ok nmX0 6 rfl (zz_m 1 rfl) rfl rfl rfl rfl dX0_passHour_6 rfl (fun H5 locs6 Z7 => ?_)
  clear Z4
  refine lv_iconst (v := 0) hx hb dX0_passHour_9 (by decide) ?_
  refine lv_istore_n (lv' := [(2, .int 0), (0, .ref b), (1, .int 2)]) hx hb dX0_passHour_10 rfl hl (by decide) rfl (fun ls8 hl9 => ?_)
  clear hl
  refine lv_iload_n hx hb dX0_passHour_11 rfl (lv_at hl9 0 rfl) ?_
  refine lv_aload_n hx hb dX0_passHour_12 rfl (lv_at hl9 1 rfl) ?_
  refine zz_get X Z7 0 rfl rfl (fun w h => List.mem_cons_of_mem _ (List.mem_append_left _ (List.mem_append_left _ (List.mem_append_right _ h)))) 3 rfl (zz_m 2 rfl) rfl dX0_passHour_13 ?_
  refine lv_icmp_ge (tgt := 85) hx hb dX0_passHour_16 (by decide) (fun _ => ?_) (fun h => absurd (by decide) h)
  refine lv_aload_n hx hb dX0_passHour_85 rfl (lv_at hl9 1 rfl) ?_
  refine zz_cv (WC := [(b, .inr (0, [.ref tx, .ref st, .ref ct, .int 0, .int tc, .int w, .int (if 12 - w < fi + 1 then 12 - w else fi + 1), .int h, .int g, .int mo, .int co, .int sp, .int to, .int z]))]) (TC := []) (WR := []) (TR := []) (k := 0) (n := 0) Z7 [0] [] [] [] rfl rfl (by decide +kernel) (by decide +kernel) (by decide +kernel) rfl rfl (fun Zc => va_runV (As := []) (rest := []) X (c_blow l D b tx st ct 0 tc w (if 12 - w < fi + 1 then 12 - w else fi + 1) h g mo co sp to z H5.size) (cwV 0 hts gX0_passHour_X0_blow rfl rfl rfl ⟨rfl, zh_X0_blow⟩ ⟨Nat.le_of_ble_eq_true rfl, Nat.le_of_ble_eq_true rfl⟩) (zz_pV (ci := 0) Zc 0 rfl rfl) rfl rfl hl9.1 rfl (lv_room (Nat.le_of_ble_eq_true rfl)) dX0_passHour_86 ⟨Nat.le_of_ble_eq_true rfl, Nat.le_of_ble_eq_true rfl⟩) rfl rfl (fun u4 H10 locs11 hw5 Z12 => ?_)
  clear Z7
  obtain ⟨f97, t98, z99⟩ := u4
  dsimp only at hw5 Z12
  obtain ⟨rfl, rfl, rfl⟩ := hw5
  have Z13 : zz_S D A s [(b, .inr (0, [.ref tx, .ref st, .ref ct, .int 0, .int tc, .int w, .int (zz_bF (if 12 - w < fi + 1 then 12 - w else fi + 1) z w g), .int h, .int g, .int mo, .int co, .int sp, .int (zz_bT to z g), .int (zz_bZ z g)]))] [] H10 locs11 := Z12
  clear Z12
  refine lv_aload_n hx hb dX0_passHour_89 rfl (lv_at hl9 1 rfl) ?_
  refine lv_dup hx hb dX0_passHour_90 rfl ?_
  refine zz_get X Z13 0 rfl rfl (fun w h => List.mem_cons_of_mem _ (List.mem_append_left _ (List.mem_append_left _ (List.mem_append_right _ h)))) 7 rfl (zz_m 9 rfl) rfl dX0_passHour_91 ?_
  refine lv_iconst (v := 1) hx hb dX0_passHour_94 (by decide) ?_
  refine lv_iadd hx hb dX0_passHour_95 ?_
  refine zz_put (WS' := [(b, .inr (0, [.ref tx, .ref st, .ref ct, .int 0, .int tc, .int w, .int (zz_bF (if 12 - w < fi + 1 then 12 - w else fi + 1) z w g), .int (h + 1), .int g, .int mo, .int co, .int sp, .int (zz_bT to z g), .int (zz_bZ z g)]))]) X Z13 0 rfl rfl (fun w h => List.mem_cons_of_mem _ (List.mem_append_left _ (List.mem_append_left _ (List.mem_append_right _ h)))) tyX0 tyX0_ok nmX0 7 rfl (zz_m 9 rfl) rfl rfl rfl rfl dX0_passHour_96 rfl (fun H14 locs15 Z16 => ?_)
  clear Z13
  exact zz_vret X hr hlk Z16 (zz_bF (if 12 - w < fi + 1 then 12 - w else fi + 1) z w g, zz_bT to z g, zz_bZ z g) ⟨rfl, rfl, rfl⟩ [0] [] (by decide +kernel) rfl rfl dX0_passHour_99

set_option maxHeartbeats 4000000 in
set_option maxRecDepth 100000 in
theorem c_takeOver (l : Launch) (D : va_G) (b : Nat) (tx : Nat) (st : Nat) (ct : Nat) (n : Int32) (tc : Int32) (w : Int32) (fi : Int32) (h : Int32) (g : Int32) (mo : Int32) (co : Int32) (sp : Int32) (to : Int32) (z : Int32) (kc : ClassId) (cf : (Nat → Int32)) (o : Nat) (otx : Nat) (ost : Nat) (oct : Nat) (otc : Int32) (ow : Int32) (ofi : Int32) (oh : Int32) (og : Int32) (omo : Int32) (oco : Int32) (osp : Int32) (oto : Int32) (oz : Int32) (ko : ClassId) (of : (Nat → Int32))  : zz_MV l yX0_takeOver wsX0_takeOver 0 0 0 0 D [.ref b, .ref o] [(b, .inr (0, [.ref tx, .ref st, .ref ct, .int n, .int tc, .int w, .int fi, .int h, .int g, .int mo, .int co, .int sp, .int to, .int z])), (ct, .inl (kc, 3, .inl cf)), (o, .inr (0, [.ref otx, .ref ost, .ref oct, .int 0, .int otc, .int ow, .int ofi, .int oh, .int og, .int omo, .int oco, .int osp, .int oto, .int oz])), (oct, .inl (ko, 3, .inl of))] [(kc, .int), (ko, .int)] (fun (cf9 : (Nat → Int32)) => True) (fun (cf9 : (Nat → Int32)) => [(b, .inr (0, [.ref tx, .ref st, .ref ct, .int 0, .int otc, .int ow, .int ofi, .int oh, .int og, .int omo, .int oco, .int osp, .int oto, .int oz])), (ct, .inl (kc, 3, .inl cf9)), (o, .inr (0, [.ref otx, .ref ost, .ref oct, .int 0, .int otc, .int ow, .int ofi, .int oh, .int og, .int omo, .int oco, .int osp, .int oto, .int oz])), (oct, .inl (ko, 3, .inl of))]) (fun (cf9 : (Nat → Int32)) => [(kc, .int), (ko, .int)]) := by
  intro sz
  refine Met.ofW (cc := cX0_takeOver) (maxL := 3) (ret := none) (by decide) rfl ?_
  intro p e s m args below meth c s₁ B hml hv
  obtain ⟨rfl, hC⟩ := hv
  have hx := B.exec
  have hb := B.bytes
  have hr := B.returns
  have hts := atoms_spec (ws := wsX0_takeOver) B.pre
  have hown : s.vm.findClass RX0 = some m.cls := findClass_of_methodNamed B.named
  have hlk := B.notSynchronized
  have X : CallFix p m c cX0_takeOver 3 s _ wsX0_takeOver RX0 := ⟨hx, hb, hml, hown, hts⟩
  have Z := zz_enter hC
  generalize va_A [(b, .inr (0, [.ref tx, .ref st, .ref ct, .int n, .int tc, .int w, .int fi, .int h, .int g, .int mo, .int co, .int sp, .int to, .int z])), (ct, .inl (kc, 3, .inl cf)), (o, .inr (0, [.ref otx, .ref ost, .ref oct, .int 0, .int otc, .int ow, .int ofi, .int oh, .int og, .int omo, .int oco, .int osp, .int oto, .int oz])), (oct, .inl (ko, 3, .inl of))] sz = A at Z ⊢
  have hl := lv_entry ([.ref b, .ref o]) (n := 3) (Nat.le_of_ble_eq_true rfl)
  rw [lg_entry_eq]
  generalize (lg_sl ([.ref b, .ref o]) ++ List.replicate (3 - (lg_sl ([.ref b, .ref o])).length) Slot.unset).toArray = ls at hl ⊢
  have hl : lv_has ls 3 [(0, .ref b), (1, .ref o)] := hl
  refine lv_aload_n hx hb dX0_takeOver_0 rfl (lv_at hl 0 rfl) ?_
  refine lv_aload_n hx hb dX0_takeOver_1 rfl (lv_at hl 1 rfl) ?_
  refine zz_get X Z 2 rfl rfl (fun w h => List.mem_cons_of_mem _ (List.mem_append_left _ (List.mem_append_right _ h))) 3 rfl (zz_m 1 rfl) rfl dX0_takeOver_2 ?_
  refine zz_put (WS' := [(b, .inr (0, [.ref tx, .ref st, .ref ct, .int 0, .int tc, .int w, .int fi, .int h, .int g, .int mo, .int co, .int sp, .int to, .int z])), (ct, .inl (kc, 3, .inl cf)), (o, .inr (0, [.ref otx, .ref ost, .ref oct, .int 0, .int otc, .int ow, .int ofi, .int oh, .int og, .int omo, .int oco, .int osp, .int oto, .int oz])), (oct, .inl (ko, 3, .inl of))]) X Z 0 rfl rfl (fun w h => List.mem_cons_of_mem _ (List.mem_append_left _ (List.mem_append_right _ h))) tyX0 tyX0_ok nmX0 3 rfl (zz_m 1 rfl) rfl rfl rfl rfl dX0_takeOver_5 rfl (fun H1 locs2 Z3 => ?_)
  clear Z
  refine lv_iconst (v := 0) hx hb dX0_takeOver_8 (by decide) ?_
  refine lv_istore_n (lv' := [(2, .int 0), (0, .ref b), (1, .ref o)]) hx hb dX0_takeOver_9 rfl hl (by decide) rfl (fun ls4 hl5 => ?_)
  clear hl
  refine lv_iload_n hx hb dX0_takeOver_10 rfl (lv_at hl5 0 rfl) ?_
  refine lv_aload_n hx hb dX0_takeOver_11 rfl (lv_at hl5 1 rfl) ?_
  refine zz_get X Z3 0 rfl rfl (fun w h => List.mem_cons_of_mem _ (List.mem_append_left _ (List.mem_append_right _ h))) 3 rfl (zz_m 1 rfl) rfl dX0_takeOver_12 ?_
  refine lv_icmp_ge (tgt := 39) hx hb dX0_takeOver_15 (by decide) (fun _ => ?_) (fun h => absurd (by decide) h)
  refine lv_aload_n hx hb dX0_takeOver_39 rfl (lv_at hl5 1 rfl) ?_
  refine lv_aload_n hx hb dX0_takeOver_40 rfl (lv_at hl5 2 rfl) ?_
  refine zz_get X Z3 2 rfl rfl (fun w h => List.mem_cons_of_mem _ (List.mem_append_left _ (List.mem_append_right _ h))) 4 rfl (zz_m 3 rfl) rfl dX0_takeOver_41 ?_
  refine zz_put (WS' := [(b, .inr (0, [.ref tx, .ref st, .ref ct, .int 0, .int otc, .int w, .int fi, .int h, .int g, .int mo, .int co, .int sp, .int to, .int z])), (ct, .inl (kc, 3, .inl cf)), (o, .inr (0, [.ref otx, .ref ost, .ref oct, .int 0, .int otc, .int ow, .int ofi, .int oh, .int og, .int omo, .int oco, .int osp, .int oto, .int oz])), (oct, .inl (ko, 3, .inl of))]) X Z3 0 rfl rfl (fun w h => List.mem_cons_of_mem _ (List.mem_append_left _ (List.mem_append_right _ h))) tyX0 tyX0_ok nmX0 4 rfl (zz_m 3 rfl) rfl rfl rfl rfl dX0_takeOver_44 rfl (fun H6 locs7 Z8 => ?_)
  clear Z3
  refine lv_iconst (v := 0) hx hb dX0_takeOver_47 (by decide) ?_
  refine lv_istore_n (lv' := [(2, .int 0), (0, .ref b), (1, .ref o)]) hx hb dX0_takeOver_48 rfl hl5 (by decide) rfl (fun ls9 hl10 => ?_)
  clear hl5
  refine lv_iload_n hx hb dX0_takeOver_49 rfl (lv_at hl10 0 rfl) ?_
  refine lv_iconst (v := 3) hx hb dX0_takeOver_50 (by decide) ?_
  refine lv_icmp_ge (tgt := 72) hx hb dX0_takeOver_51 (by decide) (fun h => absurd h (by decide)) (fun _ => ?_)
  refine lv_aload_n hx hb dX0_takeOver_54 rfl (lv_at hl10 1 rfl) ?_
  refine zz_get X Z8 0 rfl rfl (fun w h => List.mem_cons_of_mem _ (List.mem_append_left _ (List.mem_append_right _ h))) 2 rfl (zz_m 4 rfl) rfl dX0_takeOver_55 ?_
  refine lv_iload_n hx hb dX0_takeOver_58 rfl (lv_at hl10 0 rfl) ?_
  refine lv_aload_n hx hb dX0_takeOver_59 rfl (lv_at hl10 2 rfl) ?_
  refine zz_get X Z8 2 rfl rfl (fun w h => List.mem_cons_of_mem _ (List.mem_append_left _ (List.mem_append_right _ h))) 2 rfl (zz_m 4 rfl) rfl dX0_takeOver_60 ?_
  refine lv_iload_n hx hb dX0_takeOver_63 rfl (lv_at hl10 0 rfl) ?_
  refine zz_ild X Z8 3 1 rfl rfl (zz_in 0 3 rfl) dX0_takeOver_64 ?_
  refine zz_v (v := of 0) rfl ?_
  refine zz_istN (WS' := fun f1 => [(b, .inr (0, [.ref tx, .ref st, .ref ct, .int 0, .int otc, .int w, .int fi, .int h, .int g, .int mo, .int co, .int sp, .int to, .int z])), (ct, .inl (kc, 3, .inl f1)), (o, .inr (0, [.ref otx, .ref ost, .ref oct, .int 0, .int otc, .int ow, .int ofi, .int oh, .int og, .int omo, .int oco, .int osp, .int oto, .int oz])), (oct, .inl (ko, 3, .inl of))]) X Z8 1 0 rfl rfl (zz_in 0 3 rfl) dX0_takeOver_65 (fun _ => rfl) (fun f1 ef2 H11 locs12 Z13 => ?_)
  clear Z8
  refine lv_iinc (v := 1) (lv' := [(2, .int 1), (0, .ref b), (1, .ref o)]) hx hb dX0_takeOver_66 hl10 (k := 0) rfl (by decide) (by decide) rfl (fun ls14 hl15 => ?_)
  clear hl10
  refine lv_goto (tgt := 49) hx hb dX0_takeOver_69 (by decide) ?_
  refine lv_iload_n hx hb dX0_takeOver_49 rfl (lv_at hl15 0 rfl) ?_
  refine lv_iconst (v := 3) hx hb dX0_takeOver_50 (by decide) ?_
  refine lv_icmp_ge (tgt := 72) hx hb dX0_takeOver_51 (by decide) (fun h => absurd h (by decide)) (fun _ => ?_)
  refine lv_aload_n hx hb dX0_takeOver_54 rfl (lv_at hl15 1 rfl) ?_
  refine zz_get X Z13 0 rfl rfl (fun w h => List.mem_cons_of_mem _ (List.mem_append_left _ (List.mem_append_right _ h))) 2 rfl (zz_m 4 rfl) rfl dX0_takeOver_55 ?_
  refine lv_iload_n hx hb dX0_takeOver_58 rfl (lv_at hl15 0 rfl) ?_
  refine lv_aload_n hx hb dX0_takeOver_59 rfl (lv_at hl15 2 rfl) ?_
  refine zz_get X Z13 2 rfl rfl (fun w h => List.mem_cons_of_mem _ (List.mem_append_left _ (List.mem_append_right _ h))) 2 rfl (zz_m 4 rfl) rfl dX0_takeOver_60 ?_
  refine lv_iload_n hx hb dX0_takeOver_63 rfl (lv_at hl15 0 rfl) ?_
  refine zz_ild X Z13 3 1 rfl rfl (zz_in 1 3 rfl) dX0_takeOver_64 ?_
  refine zz_v (v := of 1) rfl ?_
  refine zz_istN (WS' := fun f3 => [(b, .inr (0, [.ref tx, .ref st, .ref ct, .int 0, .int otc, .int w, .int fi, .int h, .int g, .int mo, .int co, .int sp, .int to, .int z])), (ct, .inl (kc, 3, .inl f3)), (o, .inr (0, [.ref otx, .ref ost, .ref oct, .int 0, .int otc, .int ow, .int ofi, .int oh, .int og, .int omo, .int oco, .int osp, .int oto, .int oz])), (oct, .inl (ko, 3, .inl of))]) X Z13 1 0 rfl rfl (zz_in 1 3 rfl) dX0_takeOver_65 (fun _ => rfl) (fun f3 ef4 H16 locs17 Z18 => ?_)
  clear Z13
  refine lv_iinc (v := 2) (lv' := [(2, .int 2), (0, .ref b), (1, .ref o)]) hx hb dX0_takeOver_66 hl15 (k := 0) rfl (by decide) (by decide) rfl (fun ls19 hl20 => ?_)
  clear hl15
  refine lv_goto (tgt := 49) hx hb dX0_takeOver_69 (by decide) ?_
  refine lv_iload_n hx hb dX0_takeOver_49 rfl (lv_at hl20 0 rfl) ?_
  refine lv_iconst (v := 3) hx hb dX0_takeOver_50 (by decide) ?_
  refine lv_icmp_ge (tgt := 72) hx hb dX0_takeOver_51 (by decide) (fun h => absurd h (by decide)) (fun _ => ?_)
  refine lv_aload_n hx hb dX0_takeOver_54 rfl (lv_at hl20 1 rfl) ?_
  refine zz_get X Z18 0 rfl rfl (fun w h => List.mem_cons_of_mem _ (List.mem_append_left _ (List.mem_append_right _ h))) 2 rfl (zz_m 4 rfl) rfl dX0_takeOver_55 ?_
  refine lv_iload_n hx hb dX0_takeOver_58 rfl (lv_at hl20 0 rfl) ?_
  refine lv_aload_n hx hb dX0_takeOver_59 rfl (lv_at hl20 2 rfl) ?_
  refine zz_get X Z18 2 rfl rfl (fun w h => List.mem_cons_of_mem _ (List.mem_append_left _ (List.mem_append_right _ h))) 2 rfl (zz_m 4 rfl) rfl dX0_takeOver_60 ?_
  refine lv_iload_n hx hb dX0_takeOver_63 rfl (lv_at hl20 0 rfl) ?_
  refine zz_ild X Z18 3 1 rfl rfl (zz_in 2 3 rfl) dX0_takeOver_64 ?_
  refine zz_v (v := of 2) rfl ?_
  refine zz_istN (WS' := fun f5 => [(b, .inr (0, [.ref tx, .ref st, .ref ct, .int 0, .int otc, .int w, .int fi, .int h, .int g, .int mo, .int co, .int sp, .int to, .int z])), (ct, .inl (kc, 3, .inl f5)), (o, .inr (0, [.ref otx, .ref ost, .ref oct, .int 0, .int otc, .int ow, .int ofi, .int oh, .int og, .int omo, .int oco, .int osp, .int oto, .int oz])), (oct, .inl (ko, 3, .inl of))]) X Z18 1 0 rfl rfl (zz_in 2 3 rfl) dX0_takeOver_65 (fun _ => rfl) (fun f5 ef6 H21 locs22 Z23 => ?_)
  clear Z18
  refine lv_iinc (v := 3) (lv' := [(2, .int 3), (0, .ref b), (1, .ref o)]) hx hb dX0_takeOver_66 hl20 (k := 0) rfl (by decide) (by decide) rfl (fun ls24 hl25 => ?_)
  clear hl20
  refine lv_goto (tgt := 49) hx hb dX0_takeOver_69 (by decide) ?_
  refine lv_iload_n hx hb dX0_takeOver_49 rfl (lv_at hl25 0 rfl) ?_
  refine lv_iconst (v := 3) hx hb dX0_takeOver_50 (by decide) ?_
  refine lv_icmp_ge (tgt := 72) hx hb dX0_takeOver_51 (by decide) (fun _ => ?_) (fun h => absurd (by decide) h)
  refine lv_aload_n hx hb dX0_takeOver_72 rfl (lv_at hl25 1 rfl) ?_
  refine lv_aload_n hx hb dX0_takeOver_73 rfl (lv_at hl25 2 rfl) ?_
  refine zz_get X Z23 2 rfl rfl (fun w h => List.mem_cons_of_mem _ (List.mem_append_left _ (List.mem_append_right _ h))) 5 rfl (zz_m 5 rfl) rfl dX0_takeOver_74 ?_
  refine zz_put (WS' := [(b, .inr (0, [.ref tx, .ref st, .ref ct, .int 0, .int otc, .int ow, .int fi, .int h, .int g, .int mo, .int co, .int sp, .int to, .int z])), (ct, .inl (kc, 3, .inl f5)), (o, .inr (0, [.ref otx, .ref ost, .ref oct, .int 0, .int otc, .int ow, .int ofi, .int oh, .int og, .int omo, .int oco, .int osp, .int oto, .int oz])), (oct, .inl (ko, 3, .inl of))]) X Z23 0 rfl rfl (fun w h => List.mem_cons_of_mem _ (List.mem_append_left _ (List.mem_append_right _ h))) tyX0 tyX0_ok nmX0 5 rfl (zz_m 5 rfl) rfl rfl rfl rfl dX0_takeOver_77 rfl (fun H26 locs27 Z28 => ?_)
  clear Z23
  refine lv_aload_n hx hb dX0_takeOver_80 rfl (lv_at hl25 1 rfl) ?_
  refine lv_aload_n hx hb dX0_takeOver_81 rfl (lv_at hl25 2 rfl) ?_
  refine zz_get X Z28 2 rfl rfl (fun w h => List.mem_cons_of_mem _ (List.mem_append_left _ (List.mem_append_right _ h))) 6 rfl (zz_m 6 rfl) rfl dX0_takeOver_82 ?_
  refine zz_put (WS' := [(b, .inr (0, [.ref tx, .ref st, .ref ct, .int 0, .int otc, .int ow, .int ofi, .int h, .int g, .int mo, .int co, .int sp, .int to, .int z])), (ct, .inl (kc, 3, .inl f5)), (o, .inr (0, [.ref otx, .ref ost, .ref oct, .int 0, .int otc, .int ow, .int ofi, .int oh, .int og, .int omo, .int oco, .int osp, .int oto, .int oz])), (oct, .inl (ko, 3, .inl of))]) X Z28 0 rfl rfl (fun w h => List.mem_cons_of_mem _ (List.mem_append_left _ (List.mem_append_right _ h))) tyX0 tyX0_ok nmX0 6 rfl (zz_m 6 rfl) rfl rfl rfl rfl dX0_takeOver_85 rfl (fun H29 locs30 Z31 => ?_)
  clear Z28
  refine lv_aload_n hx hb dX0_takeOver_88 rfl (lv_at hl25 1 rfl) ?_
  refine lv_aload_n hx hb dX0_takeOver_89 rfl (lv_at hl25 2 rfl) ?_
  refine zz_get X Z31 2 rfl rfl (fun w h => List.mem_cons_of_mem _ (List.mem_append_left _ (List.mem_append_right _ h))) 7 rfl (zz_m 7 rfl) rfl dX0_takeOver_90 ?_
  refine zz_put (WS' := [(b, .inr (0, [.ref tx, .ref st, .ref ct, .int 0, .int otc, .int ow, .int ofi, .int oh, .int g, .int mo, .int co, .int sp, .int to, .int z])), (ct, .inl (kc, 3, .inl f5)), (o, .inr (0, [.ref otx, .ref ost, .ref oct, .int 0, .int otc, .int ow, .int ofi, .int oh, .int og, .int omo, .int oco, .int osp, .int oto, .int oz])), (oct, .inl (ko, 3, .inl of))]) X Z31 0 rfl rfl (fun w h => List.mem_cons_of_mem _ (List.mem_append_left _ (List.mem_append_right _ h))) tyX0 tyX0_ok nmX0 7 rfl (zz_m 7 rfl) rfl rfl rfl rfl dX0_takeOver_93 rfl (fun H32 locs33 Z34 => ?_)
  clear Z31
  refine lv_aload_n hx hb dX0_takeOver_96 rfl (lv_at hl25 1 rfl) ?_
  refine lv_aload_n hx hb dX0_takeOver_97 rfl (lv_at hl25 2 rfl) ?_
  refine zz_get X Z34 2 rfl rfl (fun w h => List.mem_cons_of_mem _ (List.mem_append_left _ (List.mem_append_right _ h))) 8 rfl (zz_m 8 rfl) rfl dX0_takeOver_98 ?_
  refine zz_put (WS' := [(b, .inr (0, [.ref tx, .ref st, .ref ct, .int 0, .int otc, .int ow, .int ofi, .int oh, .int og, .int mo, .int co, .int sp, .int to, .int z])), (ct, .inl (kc, 3, .inl f5)), (o, .inr (0, [.ref otx, .ref ost, .ref oct, .int 0, .int otc, .int ow, .int ofi, .int oh, .int og, .int omo, .int oco, .int osp, .int oto, .int oz])), (oct, .inl (ko, 3, .inl of))]) X Z34 0 rfl rfl (fun w h => List.mem_cons_of_mem _ (List.mem_append_left _ (List.mem_append_right _ h))) tyX0 tyX0_ok nmX0 8 rfl (zz_m 8 rfl) rfl rfl rfl rfl dX0_takeOver_101 rfl (fun H35 locs36 Z37 => ?_)
  clear Z34
  refine lv_aload_n hx hb dX0_takeOver_104 rfl (lv_at hl25 1 rfl) ?_
  refine lv_aload_n hx hb dX0_takeOver_105 rfl (lv_at hl25 2 rfl) ?_
  refine zz_get X Z37 2 rfl rfl (fun w h => List.mem_cons_of_mem _ (List.mem_append_left _ (List.mem_append_right _ h))) 9 rfl (zz_m 9 rfl) rfl dX0_takeOver_106 ?_
  refine zz_put (WS' := [(b, .inr (0, [.ref tx, .ref st, .ref ct, .int 0, .int otc, .int ow, .int ofi, .int oh, .int og, .int omo, .int co, .int sp, .int to, .int z])), (ct, .inl (kc, 3, .inl f5)), (o, .inr (0, [.ref otx, .ref ost, .ref oct, .int 0, .int otc, .int ow, .int ofi, .int oh, .int og, .int omo, .int oco, .int osp, .int oto, .int oz])), (oct, .inl (ko, 3, .inl of))]) X Z37 0 rfl rfl (fun w h => List.mem_cons_of_mem _ (List.mem_append_left _ (List.mem_append_right _ h))) tyX0 tyX0_ok nmX0 9 rfl (zz_m 9 rfl) rfl rfl rfl rfl dX0_takeOver_109 rfl (fun H38 locs39 Z40 => ?_)
  clear Z37
  refine lv_aload_n hx hb dX0_takeOver_112 rfl (lv_at hl25 1 rfl) ?_
  refine lv_aload_n hx hb dX0_takeOver_113 rfl (lv_at hl25 2 rfl) ?_
  refine zz_get X Z40 2 rfl rfl (fun w h => List.mem_cons_of_mem _ (List.mem_append_left _ (List.mem_append_right _ h))) 10 rfl (zz_m 10 rfl) rfl dX0_takeOver_114 ?_
  refine zz_put (WS' := [(b, .inr (0, [.ref tx, .ref st, .ref ct, .int 0, .int otc, .int ow, .int ofi, .int oh, .int og, .int omo, .int oco, .int sp, .int to, .int z])), (ct, .inl (kc, 3, .inl f5)), (o, .inr (0, [.ref otx, .ref ost, .ref oct, .int 0, .int otc, .int ow, .int ofi, .int oh, .int og, .int omo, .int oco, .int osp, .int oto, .int oz])), (oct, .inl (ko, 3, .inl of))]) X Z40 0 rfl rfl (fun w h => List.mem_cons_of_mem _ (List.mem_append_left _ (List.mem_append_right _ h))) tyX0 tyX0_ok nmX0 10 rfl (zz_m 10 rfl) rfl rfl rfl rfl dX0_takeOver_117 rfl (fun H41 locs42 Z43 => ?_)
  clear Z40
  refine lv_aload_n hx hb dX0_takeOver_120 rfl (lv_at hl25 1 rfl) ?_
  refine lv_aload_n hx hb dX0_takeOver_121 rfl (lv_at hl25 2 rfl) ?_
  refine zz_get X Z43 2 rfl rfl (fun w h => List.mem_cons_of_mem _ (List.mem_append_left _ (List.mem_append_right _ h))) 11 rfl (zz_m 11 rfl) rfl dX0_takeOver_122 ?_
  refine zz_put (WS' := [(b, .inr (0, [.ref tx, .ref st, .ref ct, .int 0, .int otc, .int ow, .int ofi, .int oh, .int og, .int omo, .int oco, .int osp, .int to, .int z])), (ct, .inl (kc, 3, .inl f5)), (o, .inr (0, [.ref otx, .ref ost, .ref oct, .int 0, .int otc, .int ow, .int ofi, .int oh, .int og, .int omo, .int oco, .int osp, .int oto, .int oz])), (oct, .inl (ko, 3, .inl of))]) X Z43 0 rfl rfl (fun w h => List.mem_cons_of_mem _ (List.mem_append_left _ (List.mem_append_right _ h))) tyX0 tyX0_ok nmX0 11 rfl (zz_m 11 rfl) rfl rfl rfl rfl dX0_takeOver_125 rfl (fun H44 locs45 Z46 => ?_)
  clear Z43
  refine lv_aload_n hx hb dX0_takeOver_128 rfl (lv_at hl25 1 rfl) ?_
  refine lv_aload_n hx hb dX0_takeOver_129 rfl (lv_at hl25 2 rfl) ?_
  refine zz_get X Z46 2 rfl rfl (fun w h => List.mem_cons_of_mem _ (List.mem_append_left _ (List.mem_append_right _ h))) 12 rfl (zz_m 12 rfl) rfl dX0_takeOver_130 ?_
  refine zz_put (WS' := [(b, .inr (0, [.ref tx, .ref st, .ref ct, .int 0, .int otc, .int ow, .int ofi, .int oh, .int og, .int omo, .int oco, .int osp, .int oto, .int z])), (ct, .inl (kc, 3, .inl f5)), (o, .inr (0, [.ref otx, .ref ost, .ref oct, .int 0, .int otc, .int ow, .int ofi, .int oh, .int og, .int omo, .int oco, .int osp, .int oto, .int oz])), (oct, .inl (ko, 3, .inl of))]) X Z46 0 rfl rfl (fun w h => List.mem_cons_of_mem _ (List.mem_append_left _ (List.mem_append_right _ h))) tyX0 tyX0_ok nmX0 12 rfl (zz_m 12 rfl) rfl rfl rfl rfl dX0_takeOver_133 rfl (fun H47 locs48 Z49 => ?_)
  clear Z46
  refine lv_aload_n hx hb dX0_takeOver_136 rfl (lv_at hl25 1 rfl) ?_
  refine lv_aload_n hx hb dX0_takeOver_137 rfl (lv_at hl25 2 rfl) ?_
  refine zz_get X Z49 2 rfl rfl (fun w h => List.mem_cons_of_mem _ (List.mem_append_left _ (List.mem_append_right _ h))) 13 rfl (zz_m 13 rfl) rfl dX0_takeOver_138 ?_
  refine zz_put (WS' := [(b, .inr (0, [.ref tx, .ref st, .ref ct, .int 0, .int otc, .int ow, .int ofi, .int oh, .int og, .int omo, .int oco, .int osp, .int oto, .int oz])), (ct, .inl (kc, 3, .inl f5)), (o, .inr (0, [.ref otx, .ref ost, .ref oct, .int 0, .int otc, .int ow, .int ofi, .int oh, .int og, .int omo, .int oco, .int osp, .int oto, .int oz])), (oct, .inl (ko, 3, .inl of))]) X Z49 0 rfl rfl (fun w h => List.mem_cons_of_mem _ (List.mem_append_left _ (List.mem_append_right _ h))) tyX0 tyX0_ok nmX0 13 rfl (zz_m 13 rfl) rfl rfl rfl rfl dX0_takeOver_141 rfl (fun H50 locs51 Z52 => ?_)
  clear Z49
  exact zz_vret X hr hlk Z52 (f5) trivial [0, 1, 2, 3] [0, 1] (by decide +kernel) rfl rfl dX0_takeOver_144

set_option maxHeartbeats 4000000 in
set_option maxRecDepth 100000 in
theorem c_open (l : Launch) (D : va_G) (b : Nat) (tx : Nat) (st : Nat) (ct : Nat) (n : Int32) (tc : Int32) (w : Int32) (fi : Int32) (h : Int32) (g : Int32) (mo : Int32) (co : Int32) (sp : Int32) (to : Int32) (z : Int32) (ks : ClassId) (sf : (Nat → Option Nat)) (q : Nat) (k0 : Int32) (p0 : Int32) (g0 : Int32) (y0 : Int32) (kind : Int32) (place : Int32) (pay : Int32) (hn9 : n < 9) (hin9 : vp_in n 9) (hq9 : va_rf (sf n.toNatClampNeg) = .ref q) : zz_MI l yX0_open wsX0_open 0 0 0 0 D [.ref b, .int kind, .int place, .int pay] [(b, .inr (0, [.ref tx, .ref st, .ref ct, .int n, .int tc, .int w, .int fi, .int h, .int g, .int mo, .int co, .int sp, .int to, .int z])), (st, .inl (ks, 9, .inr (.inr (.inr (.inr sf))))), (q, .inr (4, [.int k0, .int p0, .int g0, .int y0]))] [(ks, .object RX4)] (fun (r : Int32) (u : Unit) => r = n + 1 - 1) (fun (u : Unit) => [(b, .inr (0, [.ref tx, .ref st, .ref ct, .int (n + 1), .int tc, .int w, .int fi, .int h, .int g, .int mo, .int co, .int sp, .int to, .int z])), (st, .inl (ks, 9, .inr (.inr (.inr (.inr sf))))), (q, .inr (4, [.int kind, .int place, .int 100, .int pay]))]) (fun (u : Unit) => [(ks, .object RX4)]) := by
  intro sz
  refine Met.ofW (cc := cX0_open) (maxL := 5) (ret := (some .int)) (by decide) rfl ?_
  intro p e s m args below meth c s₁ B hml hv
  obtain ⟨rfl, hC⟩ := hv
  have hx := B.exec
  have hb := B.bytes
  have hr := B.returns
  have hts := atoms_spec (ws := wsX0_open) B.pre
  have hown : s.vm.findClass RX0 = some m.cls := findClass_of_methodNamed B.named
  have hlk := B.notSynchronized
  have X : CallFix p m c cX0_open 5 s _ wsX0_open RX0 := ⟨hx, hb, hml, hown, hts⟩
  have Z := zz_enter hC
  generalize va_A [(b, .inr (0, [.ref tx, .ref st, .ref ct, .int n, .int tc, .int w, .int fi, .int h, .int g, .int mo, .int co, .int sp, .int to, .int z])), (st, .inl (ks, 9, .inr (.inr (.inr (.inr sf))))), (q, .inr (4, [.int k0, .int p0, .int g0, .int y0]))] sz = A at Z ⊢
  have hl := lv_entry ([.ref b, .int kind, .int place, .int pay]) (n := 5) (Nat.le_of_ble_eq_true rfl)
  rw [lg_entry_eq]
  generalize (lg_sl ([.ref b, .int kind, .int place, .int pay]) ++ List.replicate (5 - (lg_sl ([.ref b, .int kind, .int place, .int pay])).length) Slot.unset).toArray = ls at hl ⊢
  have hl : lv_has ls 5 [(0, .ref b), (1, .int kind), (2, .int place), (3, .int pay)] := hl
  refine lv_aload_n hx hb dX0_open_0 rfl (lv_at hl 0 rfl) ?_
  refine zz_get X Z 0 rfl rfl (fun w h => List.mem_cons_of_mem _ (List.mem_append_left _ (List.mem_append_right _ h))) 3 rfl (zz_m 1 rfl) rfl dX0_open_1 ?_
  refine lv_bipush (v := 9) hx hb dX0_open_4 (by decide) ?_
  refine lv_icmp_lt (tgt := 12) hx hb dX0_open_6 (by decide) (fun _ => ?_) (fun h => absurd hn9 h)
  refine lv_aload_n hx hb dX0_open_12 rfl (lv_at hl 0 rfl) ?_
  refine zz_get X Z 0 rfl rfl (fun w h => List.mem_cons_of_mem _ (List.mem_append_left _ (List.mem_append_right _ h))) 1 rfl (zz_m 3 rfl) rfl dX0_open_13 ?_
  refine lv_aload_n hx hb dX0_open_16 rfl (lv_at hl 0 rfl) ?_
  refine zz_get X Z 0 rfl rfl (fun w h => List.mem_cons_of_mem _ (List.mem_append_left _ (List.mem_append_right _ h))) 3 rfl (zz_m 1 rfl) rfl dX0_open_17 ?_
  refine zz_ald X Z 1 0 rfl rfl hin9 (v := .ref q) hq9 dX0_open_20 ?_
  refine lv_astore (lv' := [(4, .ref q), (0, .ref b), (1, .int kind), (2, .int place), (3, .int pay)]) hx hb dX0_open_21 hl (by decide) rfl (fun ls1 hl2 => ?_)
  clear hl
  refine lv_aload hx hb dX0_open_23 (lv_at hl2 0 rfl) ?_
  refine lv_iload_n hx hb dX0_open_25 rfl (lv_at hl2 2 rfl) ?_
  refine zz_put (WS' := [(b, .inr (0, [.ref tx, .ref st, .ref ct, .int n, .int tc, .int w, .int fi, .int h, .int g, .int mo, .int co, .int sp, .int to, .int z])), (st, .inl (ks, 9, .inr (.inr (.inr (.inr sf))))), (q, .inr (4, [.int kind, .int p0, .int g0, .int y0]))]) X Z 2 rfl rfl (fun w h => List.mem_cons_of_mem _ (List.mem_append_right _ h)) tyX4 tyX4_ok nmX4 0 rfl (zz_m 4 rfl) rfl rfl rfl rfl dX0_open_26 rfl (fun H3 locs4 Z5 => ?_)
  clear Z
  refine lv_aload hx hb dX0_open_29 (lv_at hl2 0 rfl) ?_
  refine lv_iload_n hx hb dX0_open_31 rfl (lv_at hl2 3 rfl) ?_
  refine zz_put (WS' := [(b, .inr (0, [.ref tx, .ref st, .ref ct, .int n, .int tc, .int w, .int fi, .int h, .int g, .int mo, .int co, .int sp, .int to, .int z])), (st, .inl (ks, 9, .inr (.inr (.inr (.inr sf))))), (q, .inr (4, [.int kind, .int place, .int g0, .int y0]))]) X Z5 2 rfl rfl (fun w h => List.mem_cons_of_mem _ (List.mem_append_right _ h)) tyX4 tyX4_ok nmX4 1 rfl (zz_m 5 rfl) rfl rfl rfl rfl dX0_open_32 rfl (fun H6 locs7 Z8 => ?_)
  clear Z5
  refine lv_aload hx hb dX0_open_35 (lv_at hl2 0 rfl) ?_
  refine lv_bipush (v := 100) hx hb dX0_open_37 (by decide) ?_
  refine zz_put (WS' := [(b, .inr (0, [.ref tx, .ref st, .ref ct, .int n, .int tc, .int w, .int fi, .int h, .int g, .int mo, .int co, .int sp, .int to, .int z])), (st, .inl (ks, 9, .inr (.inr (.inr (.inr sf))))), (q, .inr (4, [.int kind, .int place, .int 100, .int y0]))]) X Z8 2 rfl rfl (fun w h => List.mem_cons_of_mem _ (List.mem_append_right _ h)) tyX4 tyX4_ok nmX4 2 rfl (zz_m 6 rfl) rfl rfl rfl rfl dX0_open_39 rfl (fun H9 locs10 Z11 => ?_)
  clear Z8
  refine lv_aload hx hb dX0_open_42 (lv_at hl2 0 rfl) ?_
  refine lv_iload_n hx hb dX0_open_44 rfl (lv_at hl2 4 rfl) ?_
  refine zz_put (WS' := [(b, .inr (0, [.ref tx, .ref st, .ref ct, .int n, .int tc, .int w, .int fi, .int h, .int g, .int mo, .int co, .int sp, .int to, .int z])), (st, .inl (ks, 9, .inr (.inr (.inr (.inr sf))))), (q, .inr (4, [.int kind, .int place, .int 100, .int pay]))]) X Z11 2 rfl rfl (fun w h => List.mem_cons_of_mem _ (List.mem_append_right _ h)) tyX4 tyX4_ok nmX4 3 rfl (zz_m 7 rfl) rfl rfl rfl rfl dX0_open_45 rfl (fun H12 locs13 Z14 => ?_)
  clear Z11
  refine lv_aload_n hx hb dX0_open_48 rfl (lv_at hl2 1 rfl) ?_
  refine lv_dup hx hb dX0_open_49 rfl ?_
  refine zz_get X Z14 0 rfl rfl (fun w h => List.mem_cons_of_mem _ (List.mem_append_left _ (List.mem_append_right _ h))) 3 rfl (zz_m 1 rfl) rfl dX0_open_50 ?_
  refine lv_iconst (v := 1) hx hb dX0_open_53 (by decide) ?_
  refine lv_iadd hx hb dX0_open_54 ?_
  refine zz_put (WS' := [(b, .inr (0, [.ref tx, .ref st, .ref ct, .int (n + 1), .int tc, .int w, .int fi, .int h, .int g, .int mo, .int co, .int sp, .int to, .int z])), (st, .inl (ks, 9, .inr (.inr (.inr (.inr sf))))), (q, .inr (4, [.int kind, .int place, .int 100, .int pay]))]) X Z14 0 rfl rfl (fun w h => List.mem_cons_of_mem _ (List.mem_append_left _ (List.mem_append_right _ h))) tyX0 tyX0_ok nmX0 3 rfl (zz_m 1 rfl) rfl rfl rfl rfl dX0_open_55 rfl (fun H15 locs16 Z17 => ?_)
  clear Z14
  refine lv_aload_n hx hb dX0_open_58 rfl (lv_at hl2 1 rfl) ?_
  refine zz_get X Z17 0 rfl rfl (fun w h => List.mem_cons_of_mem _ (List.mem_append_left _ (List.mem_append_right _ h))) 3 rfl (zz_m 1 rfl) rfl dX0_open_59 ?_
  refine lv_iconst (v := 1) hx hb dX0_open_62 (by decide) ?_
  refine lv_isub hx hb dX0_open_63 ?_
  exact zz_iret X hr hlk Z17 () rfl [0, 1, 2] [0] (by decide +kernel) rfl rfl dX0_open_64

set_option maxHeartbeats 4000000 in
set_option maxRecDepth 100000 in
theorem c_widen (l : Launch) (D : va_G) (b : Nat) (tx : Nat) (st : Nat) (ct : Nat) (n : Int32) (tc : Int32) (w : Int32) (fi : Int32) (h : Int32) (g : Int32) (mo : Int32) (co : Int32) (sp : Int32) (to : Int32) (z : Int32) (to_ : Int32)  : zz_MV l yX0_widen wsX0_widen 2 46 0 0 D [.ref b, .int to_] [(b, .inr (0, [.ref tx, .ref st, .ref ct, .int n, .int tc, .int w, .int fi, .int h, .int g, .int mo, .int co, .int sp, .int to, .int z]))] [] (fun (u : Unit) => True) (fun (u : Unit) => [(b, .inr (0, [.ref tx, .ref st, .ref ct, .int n, .int tc, .int to_, .int (zz_held fi 0 (12 - to_)), .int h, .int g, .int mo, .int co, .int sp, .int to, .int z]))]) (fun (u : Unit) => []) := by
  intro sz
  refine Met.ofW (cc := cX0_widen) (maxL := 2) (ret := none) (by decide) rfl ?_
  intro p e s m args below meth c s₁ B hml hv
  obtain ⟨rfl, hC⟩ := hv
  have hx := B.exec
  have hb := B.bytes
  have hr := B.returns
  have hts := atoms_spec (ws := wsX0_widen) B.pre
  have hown : s.vm.findClass RX0 = some m.cls := findClass_of_methodNamed B.named
  have hlk := B.notSynchronized
  have X : CallFix p m c cX0_widen 2 s _ wsX0_widen RX0 := ⟨hx, hb, hml, hown, hts⟩
  have Z := zz_enter hC
  generalize va_A [(b, .inr (0, [.ref tx, .ref st, .ref ct, .int n, .int tc, .int w, .int fi, .int h, .int g, .int mo, .int co, .int sp, .int to, .int z]))] sz = A at Z ⊢
  have hl := lv_entry ([.ref b, .int to_]) (n := 2) (Nat.le_of_ble_eq_true rfl)
  rw [lg_entry_eq]
  generalize (lg_sl ([.ref b, .int to_]) ++ List.replicate (2 - (lg_sl ([.ref b, .int to_])).length) Slot.unset).toArray = ls at hl ⊢
  have hl : lv_has ls 2 [(0, .ref b), (1, .int to_)] := hl
  refine lv_aload_n hx hb dX0_widen_0 rfl (lv_at hl 0 rfl) ?_
  refine lv_iload_n hx hb dX0_widen_1 rfl (lv_at hl 1 rfl) ?_
  refine zz_put (WS' := [(b, .inr (0, [.ref tx, .ref st, .ref ct, .int n, .int tc, .int to_, .int fi, .int h, .int g, .int mo, .int co, .int sp, .int to, .int z]))]) X Z 0 rfl rfl (fun w h => List.mem_cons_of_mem _ (List.mem_append_right _ h)) tyX0 tyX0_ok nmX0 5 rfl (zz_m 1 rfl) rfl rfl rfl rfl dX0_widen_2 rfl (fun H1 locs2 Z3 => ?_)
  clear Z
  refine lv_aload_n hx hb dX0_widen_5 rfl (lv_at hl 0 rfl) ?_
  refine lv_aload_n hx hb dX0_widen_6 rfl (lv_at hl 0 rfl) ?_
  refine zz_get X Z3 0 rfl rfl (fun w h => List.mem_cons_of_mem _ (List.mem_append_right _ h)) 6 rfl (zz_m 2 rfl) rfl dX0_widen_7 ?_
  refine lv_iconst (v := 0) hx hb dX0_widen_10 (by decide) ?_
  refine lv_aload_n hx hb dX0_widen_11 rfl (lv_at hl 0 rfl) ?_
  refine zz_ci (WC := [(b, .inr (0, [.ref tx, .ref st, .ref ct, .int n, .int tc, .int to_, .int fi, .int h, .int g, .int mo, .int co, .int sp, .int to, .int z]))]) (TC := []) (WR := []) (TR := []) (k := 0) (n := 0) Z3 [0] [] [] [] rfl rfl (by decide +kernel) (by decide +kernel) (by decide +kernel) rfl rfl (fun Zc => va_runV (As := []) (rest := [.int 0, .int fi, .ref b]) X (c_lastFirst l D b tx st ct n tc to_ fi h g mo co sp to z H1.size) (cwV 0 hts gX0_widen_X0_lastFirst rfl rfl rfl ⟨rfl, zh_X0_lastFirst⟩ ⟨Nat.le_of_ble_eq_true rfl, Nat.le_of_ble_eq_true rfl⟩) (zz_pV (ci := 0) Zc 0 rfl rfl) rfl rfl hl.1 rfl (lv_room (Nat.le_of_ble_eq_true rfl)) dX0_widen_12 ⟨Nat.le_of_ble_eq_true rfl, Nat.le_of_ble_eq_true rfl⟩) rfl rfl (fun r3 u1 H4 locs5 hw2 Z6 => ?_)
  clear Z3
  subst r3
  have Z7 : zz_S D A s [(b, .inr (0, [.ref tx, .ref st, .ref ct, .int n, .int tc, .int to_, .int fi, .int h, .int g, .int mo, .int co, .int sp, .int to, .int z]))] [] H4 locs5 := Z6
  clear Z6
  refine zz_ci (WC := []) (TC := []) (WR := [(b, .inr (0, [.ref tx, .ref st, .ref ct, .int n, .int tc, .int to_, .int fi, .int h, .int g, .int mo, .int co, .int sp, .int to, .int z]))]) (TR := []) (k := 0) (n := 0) Z7 [] [0] [] [] rfl rfl (by decide +kernel) (by decide +kernel) (by decide +kernel) rfl rfl (fun Zc => va_runSN (As := [.int fi, .int 0, .int (12 - to_)]) (rest := [.ref b]) X (c_held l D fi 0 (12 - to_) H4.size) ⟨va_cnB 3 hts gX0_widen_X6_held_n120 rfl rfl rfl (zz_nw (q := (RX0, 120, yX6_held, RX6)) Z7.2.2.2.2.2 3 rfl) (hts _ (zz_m 9 rfl)) zh_X6_held ⟨Nat.le_of_ble_eq_true rfl, Nat.le_of_ble_eq_true rfl⟩, hts _ (zz_m 8 rfl), trivial⟩ (zz_pS Zc) rfl rfl hl.1 rfl (lv_room (Nat.le_of_ble_eq_true rfl)) dX0_widen_15 ⟨Nat.le_of_ble_eq_true rfl, Nat.le_of_ble_eq_true rfl⟩) rfl rfl (fun r6 u4 H8 locs9 hw5 Z10 => ?_)
  clear Z7
  subst r6
  have Z11 : zz_S D A s [(b, .inr (0, [.ref tx, .ref st, .ref ct, .int n, .int tc, .int to_, .int fi, .int h, .int g, .int mo, .int co, .int sp, .int to, .int z]))] [] H8 locs9 := Z10
  clear Z10
  refine zz_put (WS' := [(b, .inr (0, [.ref tx, .ref st, .ref ct, .int n, .int tc, .int to_, .int (zz_held fi 0 (12 - to_)), .int h, .int g, .int mo, .int co, .int sp, .int to, .int z]))]) X Z11 0 rfl rfl (fun w h => List.mem_cons_of_mem _ (List.mem_append_right _ h)) tyX0 tyX0_ok nmX0 6 rfl (zz_m 2 rfl) rfl rfl rfl rfl dX0_widen_18 rfl (fun H12 locs13 Z14 => ?_)
  clear Z11
  exact zz_vret X hr hlk Z14 () trivial [0] [] (by decide +kernel) rfl rfl dX0_widen_21
