def f_X0_open (q0 : Nat) (a1 : Int32) (a2 : Int32) (a3 : Int32) (σ : zg_S) : Option (Int32 × zg_S) := (if (σ q0 3) < 9 then (if zin (σ q0 3) 9 = true then zlet (zg_up σ ((q0 + 1) + 2 + (Int32.toNatClampNeg (σ q0 3))) 0 a1) (fun (σ8 : zg_S) => zlet (zg_up σ8 ((q0 + 1) + 2 + (Int32.toNatClampNeg (σ q0 3))) 1 a2) (fun (σ14 : zg_S) => zlet (zg_up σ14 ((q0 + 1) + 2 + (Int32.toNatClampNeg (σ q0 3))) 2 100) (fun (σ20 : zg_S) => zlet (zg_up σ20 ((q0 + 1) + 2 + (Int32.toNatClampNeg (σ q0 3))) 3 a3) (fun (σ26 : zg_S) => zlet (zg_up σ26 q0 3 ((σ26 q0 3) + 1)) (fun (σ32 : zg_S) => some ((σ32 q0 3) - 1, σ32)))))) else none) else some ((-1000000003), σ))
set_option maxHeartbeats 4000000 in
set_option maxRecDepth 100000 in
theorem c_X0_open (l : Launch) (D : va_G) (V : zz_V) (ad : Nat → Nat) (cA : Nat → ClassId) (q0 : Nat) (a1 : Int32) (a2 : Int32) (a3 : Int32) (hq0 : XL.2.1 q0 = 0) (σ : zg_S) (r0 : Int32) (σf : zg_S) (hf : f_X0_open q0 a1 a2 a3 σ = some (r0, σf)) : zM_I l yX0_open wsX0_open 0 0 D V XL ad cA [.ref (ad q0), .int a1, .int a2, .int a3] σ r0 σf := by
  intro sz
  refine Met.ofW (cc := cX0_open) (maxL := 5) (ret := (some .int)) (by decide) rfl ?_
  intro p e s m args below meth c s₁ B hml hv
  obtain ⟨rfl, hC⟩ := hv
  have hx := B.exec
  have hb := B.bytes
  have hr := B.returns
  have hts := atoms_spec (ws := wsX0_open) B.pre
  have hown : s.vm.findClass RX0 = some m.cls := findClass_of_methodNamed B.named
  have hlk := B.notSynchronized
  have X : CallFix p m c cX0_open 5 s _ wsX0_open RX0 := ⟨hx, hb, hml, hown, hts⟩
  have Z := zz_enter hC
  generalize va_A (zg_W XL ad cA σ) sz = A at Z ⊢
  have hl := lv_entry ([.ref (ad q0), .int a1, .int a2, .int a3]) (n := 5) (Nat.le_of_ble_eq_true rfl)
  rw [lg_entry_eq]
  generalize (lg_sl ([.ref (ad q0), .int a1, .int a2, .int a3]) ++ List.replicate (5 - (lg_sl ([.ref (ad q0), .int a1, .int a2, .int a3])).length) Slot.unset).toArray = ls at hl ⊢
  have hl : lv_has ls 5 [(0, .ref (ad q0)), (1, .int a1), (2, .int a2), (3, .int a3)] := hl
  unfold f_X0_open at hf
  refine lv_aload_n hx hb dX0_open_0 rfl (lv_at hl 0 rfl) ?_
  refine zy_get (v := .int (σ q0 3)) X Z xL_ok hq0 rfl rfl (fun w h => List.mem_cons_of_mem _ (List.mem_append_left _ (List.mem_append_right _ h))) 3 rfl (zz_m 1 rfl) rfl dX0_open_1 ?_
  refine lv_bipush (v := 9) hx hb dX0_open_4 (by decide) ?_
  refine lv_icmp_lt (tgt := 12) hx hb dX0_open_6 (by decide) (fun b1 => ?_) (fun b1 => ?_)
  · have hf2 := zYes hf b1
    clear hf
    refine lv_aload_n hx hb dX0_open_12 rfl (lv_at hl 0 rfl) ?_
    refine zy_get (v := .ref (ad (q0 + 1))) X Z xL_ok hq0 rfl rfl (fun w h => List.mem_cons_of_mem _ (List.mem_append_left _ (List.mem_append_right _ h))) 1 rfl (zz_m 3 rfl) rfl dX0_open_13 ?_
    refine lv_aload_n hx hb dX0_open_16 rfl (lv_at hl 0 rfl) ?_
    refine zy_get (v := .int (σ q0 3)) X Z xL_ok hq0 rfl rfl (fun w h => List.mem_cons_of_mem _ (List.mem_append_left _ (List.mem_append_right _ h))) 3 rfl (zz_m 1 rfl) rfl dX0_open_17 ?_
    obtain ⟨⟨i3, j4⟩, hf5⟩ := zG hf2
    clear hf2
    refine zy_ald (v := ((q0 + 1) + 2 + (Int32.toNatClampNeg (σ q0 3)))) (C := RX4) X Z xL_ok (xB1 hq0) rfl rfl (xB1l hq0) rfl i3 rfl dX0_open_20 ?_
    refine lv_astore (lv' := [(4, .ref (ad ((q0 + 1) + 2 + (Int32.toNatClampNeg (σ q0 3))))), (0, .ref (ad q0)), (1, .int a1), (2, .int a2), (3, .int a3)]) hx hb dX0_open_21 hl (by decide) rfl (fun ls7 hl6 => ?_)
    clear hl
    refine lv_aload hx hb dX0_open_23 (lv_at hl6 0 rfl) ?_
    refine lv_iload_n hx hb dX0_open_25 rfl (lv_at hl6 2 rfl) ?_
    obtain ⟨σ8, es9, hf10⟩ := zLet hf5
    clear hf5
    refine zy_put (v := a1) (σ' := σ8) X Z xL_ok (xS (xB1 hq0) j4) rfl rfl (fun w h => List.mem_cons_of_mem _ (List.mem_append_right _ h)) tyX4 tyX4_ok nmX4 0 rfl (zz_m 4 rfl) rfl rfl rfl (fun _ => rfl) (fun _ => rfl) es9 dX0_open_26 (fun H11 lo12 Z13 => ?_)
    clear Z es9
    refine lv_aload hx hb dX0_open_29 (lv_at hl6 0 rfl) ?_
    refine lv_iload_n hx hb dX0_open_31 rfl (lv_at hl6 3 rfl) ?_
    obtain ⟨σ14, es15, hf16⟩ := zLet hf10
    clear hf10
    refine zy_put (v := a2) (σ' := σ14) X Z13 xL_ok (xS (xB1 hq0) j4) rfl rfl (fun w h => List.mem_cons_of_mem _ (List.mem_append_right _ h)) tyX4 tyX4_ok nmX4 1 rfl (zz_m 5 rfl) rfl rfl rfl (fun _ => rfl) (fun _ => rfl) es15 dX0_open_32 (fun H17 lo18 Z19 => ?_)
    clear Z13 es15
    refine lv_aload hx hb dX0_open_35 (lv_at hl6 0 rfl) ?_
    refine lv_bipush (v := 100) hx hb dX0_open_37 (by decide) ?_
    obtain ⟨σ20, es21, hf22⟩ := zLet hf16
    clear hf16
    refine zy_put (v := 100) (σ' := σ20) X Z19 xL_ok (xS (xB1 hq0) j4) rfl rfl (fun w h => List.mem_cons_of_mem _ (List.mem_append_right _ h)) tyX4 tyX4_ok nmX4 2 rfl (zz_m 6 rfl) rfl rfl rfl (fun _ => rfl) (fun _ => rfl) es21 dX0_open_39 (fun H23 lo24 Z25 => ?_)
    clear Z19 es21
    refine lv_aload hx hb dX0_open_42 (lv_at hl6 0 rfl) ?_
    refine lv_iload_n hx hb dX0_open_44 rfl (lv_at hl6 4 rfl) ?_
    obtain ⟨σ26, es27, hf28⟩ := zLet hf22
    clear hf22
    refine zy_put (v := a3) (σ' := σ26) X Z25 xL_ok (xS (xB1 hq0) j4) rfl rfl (fun w h => List.mem_cons_of_mem _ (List.mem_append_right _ h)) tyX4 tyX4_ok nmX4 3 rfl (zz_m 7 rfl) rfl rfl rfl (fun _ => rfl) (fun _ => rfl) es27 dX0_open_45 (fun H29 lo30 Z31 => ?_)
    clear Z25 es27
    refine lv_aload_n hx hb dX0_open_48 rfl (lv_at hl6 1 rfl) ?_
    refine lv_dup hx hb dX0_open_49 rfl ?_
    refine zy_get (v := .int (σ26 q0 3)) X Z31 xL_ok hq0 rfl rfl (fun w h => List.mem_cons_of_mem _ (List.mem_append_left _ (List.mem_append_right _ h))) 3 rfl (zz_m 1 rfl) rfl dX0_open_50 ?_
    refine lv_iconst (v := 1) hx hb dX0_open_53 (by decide) ?_
    refine lv_iadd hx hb dX0_open_54 ?_
    obtain ⟨σ32, es33, hf34⟩ := zLet hf28
    clear hf28
    refine zy_put (v := (σ26 q0 3) + 1) (σ' := σ32) X Z31 xL_ok hq0 rfl rfl (fun w h => List.mem_cons_of_mem _ (List.mem_append_left _ (List.mem_append_right _ h))) tyX0 tyX0_ok nmX0 3 rfl (zz_m 1 rfl) rfl rfl rfl (fun _ => rfl) (fun _ => rfl) es33 dX0_open_55 (fun H35 lo36 Z37 => ?_)
    clear Z31 es33
    refine lv_aload_n hx hb dX0_open_58 rfl (lv_at hl6 1 rfl) ?_
    refine zy_get (v := .int (σ32 q0 3)) X Z37 xL_ok hq0 rfl rfl (fun w h => List.mem_cons_of_mem _ (List.mem_append_left _ (List.mem_append_right _ h))) 3 rfl (zz_m 1 rfl) rfl dX0_open_59 ?_
    refine lv_iconst (v := 1) hx hb dX0_open_62 (by decide) ?_
    refine lv_isub hx hb dX0_open_63 ?_
    exact zy_iret X hr hlk Z37 (zEnd hf34) dX0_open_64
  · have hf38 := zNot hf b1
    clear hf
    refine lv_ldc (v := (-1000000003)) hx hb hown (hts _ (zz_m 2 rfl)) dX0_open_9 ?_
    exact zy_iret X hr hlk Z (zEnd hf38) dX0_open_11
def B_X0_passHour_79 (q0 : Nat) (a1 : Int32) (rec11_ : Int32 → zg_S → Option (Int32 × zg_S)) (x2 : Int32) (σ : zg_S) : Option (Int32 × zg_S) := rec11_ (x2 + 1) σ
def B_X0_passHour_11 (q0 : Nat) (a1 : Int32) (rec11_ : Int32 → zg_S → Option (Int32 × zg_S)) (x2 : Int32) (σ : zg_S) : Option (Int32 × zg_S) := (if (σ q0 3) ≤ x2 then zbd (f_X0_blow q0 σ) (fun (r5 : Int32) (σ6 : zg_S) => zlet (zg_up σ6 q0 7 ((σ6 q0 7) + 1)) (fun (σ12 : zg_S) => some (0, σ12))) else (if zin x2 9 = true then zbd (f_X0_lossOf q0 ((q0 + 1) + 2 + (Int32.toNatClampNeg x2)) σ) (fun (r24 : Int32) (σ25 : zg_S) => zlet ((σ25 ((q0 + 1) + 2 + (Int32.toNatClampNeg x2)) 2) - r24) (fun (y33 : Int32) => zlet (zg_up σ25 ((q0 + 1) + 2 + (Int32.toNatClampNeg x2)) 2 y33) (fun (σ36 : zg_S) => zlet (zg_up σ36 q0 11 ((σ36 q0 11) + r24)) (fun (σ42 : zg_S) => zbd (f_X0_shades q0 (σ42 ((q0 + 1) + 2 + (Int32.toNatClampNeg x2)) 1) σ42) (fun (r48 : Int32) (σ49 : zg_S) => (if r48 = 0 then B_X0_passHour_79 q0 a1 rec11_ x2 σ49 else zlet ((σ49 q0 10) + (σ49 ((q0 + 1) + 2 + (Int32.toNatClampNeg x2)) 3)) (fun (y58 : Int32) => zlet (zg_up σ49 q0 10 y58) (fun (σ61 : zg_S) => B_X0_passHour_79 q0 a1 rec11_ x2 σ61)))))))) else none))
def L_X0_passHour_11 (q0 : Nat) (a1 : Int32) : Nat → Int32 → zg_S → Option (Int32 × zg_S) := zfix (fun _ _ => none) (B_X0_passHour_11 q0 a1)
def f_X0_passHour (q0 : Nat) (a1 : Int32) (σ : zg_S) : Option (Int32 × zg_S) := zbd (f_X0_hauledTo q0 a1 σ) (fun (r67 : Int32) (σ68 : zg_S) => zlet (zg_up σ68 q0 6 r67) (fun (σ74 : zg_S) => L_X0_passHour_11 q0 a1 zfu 0 σ74))
set_option maxHeartbeats 4000000 in
set_option maxRecDepth 100000 in
theorem c_X0_passHour (l : Launch) (D : va_G) (V : zz_V) (ad : Nat → Nat) (cA : Nat → ClassId) (q0 : Nat) (a1 : Int32) (hq0 : XL.2.1 q0 = 0) (σ : zg_S) (r0 : Int32) (σf : zg_S) (hf : f_X0_passHour q0 a1 σ = some (r0, σf)) : zM_V l yX0_passHour wsX0_passHour 4 92 D V XL ad cA [.ref (ad q0), .int a1] σ r0 σf := by
  intro sz
  refine Met.ofW (cc := cX0_passHour) (maxL := 5) (ret := none) (by decide) rfl ?_
  intro p e s m args below meth c s₁ B hml hv
  obtain ⟨rfl, hC⟩ := hv
  have hx := B.exec
  have hb := B.bytes
  have hr := B.returns
  have hts := atoms_spec (ws := wsX0_passHour) B.pre
  have hown : s.vm.findClass RX0 = some m.cls := findClass_of_methodNamed B.named
  have hlk := B.notSynchronized
  have X : CallFix p m c cX0_passHour 5 s _ wsX0_passHour RX0 := ⟨hx, hb, hml, hown, hts⟩
  have Z := zz_enter hC
  generalize va_A (zg_W XL ad cA σ) sz = A at Z ⊢
  have hl := lv_entry ([.ref (ad q0), .int a1]) (n := 5) (Nat.le_of_ble_eq_true rfl)
  rw [lg_entry_eq]
  generalize (lg_sl ([.ref (ad q0), .int a1]) ++ List.replicate (5 - (lg_sl ([.ref (ad q0), .int a1])).length) Slot.unset).toArray = ls at hl ⊢
  have hl : lv_has ls 5 [(0, .ref (ad q0)), (1, .int a1)] := hl
  unfold f_X0_passHour at hf
  have b11_ : ∀ (k11_ : Nat) (x2 : Int32) (σ : zg_S), L_X0_passHour_11 q0 a1 k11_ x2 σ = some (r0, σf) → ∀ (H : Heap) (locs : List Loc) (ls : Array Slot), zz_S D V A s (zg_W XL ad cA σ) (zg_T XL cA) H locs → lv_has ls 5 [(0, .ref (ad q0)), (2, .int x2)] → W p l e (headSpec wsX0_passHour { frames := 4, cells := 0, slots := 0, locals := 92 }).room s m (List.toArray [.ref (ad q0), .int a1]) below meth c H locs 0 0 (MQ below (va_Qv (fun (_ : Unit) => True) (fun _ t => zz_B D A (zg_W XL ad cA σf) (zg_T XL cA) t) A) (List.toArray [.ref (ad q0), .int a1]) s 0 0 A) (F0 m 11 ls []) := by
    intro k11_
    induction k11_ with
    | zero =>
        intro x2 σ hf11_ H11_ locs11_ ls11_ Z11_ hl11_
        exact zNone hf11_
    | succ k11_ ih11_ =>
        intro x2 σ hf11_ H11_ locs11_ ls11_ Z11_ hl11_
        replace hf11_ : B_X0_passHour_11 q0 a1 (L_X0_passHour_11 q0 a1 k11_) x2 σ = some (r0, σf) := hf11_
        unfold B_X0_passHour_11 at hf11_
        have b79_ : ∀ (x2 : Int32) (σ : zg_S), B_X0_passHour_79 q0 a1 (L_X0_passHour_11 q0 a1 k11_) x2 σ = some (r0, σf) → ∀ (H : Heap) (locs : List Loc) (ls : Array Slot), zz_S D V A s (zg_W XL ad cA σ) (zg_T XL cA) H locs → lv_has ls 5 [(0, .ref (ad q0)), (2, .int x2)] → W p l e (headSpec wsX0_passHour { frames := 4, cells := 0, slots := 0, locals := 92 }).room s m (List.toArray [.ref (ad q0), .int a1]) below meth c H locs 0 0 (MQ below (va_Qv (fun (_ : Unit) => True) (fun _ t => zz_B D A (zg_W XL ad cA σf) (zg_T XL cA) t) A) (List.toArray [.ref (ad q0), .int a1]) s 0 0 A) (F0 m 79 ls []) := by
          intro x2 σ hf79_ H79_ locs79_ ls79_ Z79_ hl79_
          unfold B_X0_passHour_79 at hf79_
          refine lv_iinc (v := (x2 + 1)) (lv' := [(2, .int (x2 + 1)), (0, .ref (ad q0))]) hx hb dX0_passHour_79 hl79_ (k := 1) rfl rfl (by decide) rfl (fun ls2 hl1 => ?_)
          clear hl79_
          refine lv_goto (tgt := 11) hx hb dX0_passHour_82 (by decide) ?_
          exact ih11_ (x2 + 1) σ hf79_ _ _ _ Z79_ (lv_sub hl1 [1, 0] rfl)
        refine lv_iload_n hx hb dX0_passHour_11 rfl (lv_at hl11_ 1 rfl) ?_
        refine lv_aload_n hx hb dX0_passHour_12 rfl (lv_at hl11_ 0 rfl) ?_
        refine zy_get (v := .int (σ q0 3)) X Z11_ xL_ok hq0 rfl rfl (fun w h => List.mem_cons_of_mem _ (List.mem_append_left _ (List.mem_append_left _ (List.mem_append_right _ h)))) 3 rfl (zz_m 2 rfl) rfl dX0_passHour_13 ?_
        refine lv_icmp_ge (tgt := 85) hx hb dX0_passHour_16 (by decide) (fun b3 => ?_) (fun b3 => ?_)
        · have hf4 := zYes hf11_ b3
          clear hf11_
          refine lv_aload_n hx hb dX0_passHour_85 rfl (lv_at hl11_ 0 rfl) ?_
          obtain ⟨r5, σ6, hc7, hf8⟩ := zBd hf4
          clear hf4
          refine zy_cv (WS1 := zg_W XL ad cA σ6) (TYS1 := zg_T XL cA) Z11_ (va_runV (As := []) (rest := []) X (c_X0_blow l D V ad cA q0 hq0 σ r5 σ6 hc7 H11_.size) (cwV 0 hts gX0_passHour_X0_blow rfl rfl rfl ⟨rfl, zh_X0_blow⟩ ⟨Nat.le_of_ble_eq_true rfl, Nat.le_of_ble_eq_true rfl⟩) (zy_pV (ci := 0) Z11_ xL_ok hq0 rfl rfl) rfl rfl hl11_.1 rfl (lv_room (Nat.le_of_ble_eq_true rfl)) dX0_passHour_86 ⟨Nat.le_of_ble_eq_true rfl, Nat.le_of_ble_eq_true rfl⟩) (fun H9 lo10 Z11 => ?_)
          clear Z11_ hc7
          refine lv_aload_n hx hb dX0_passHour_89 rfl (lv_at hl11_ 0 rfl) ?_
          refine lv_dup hx hb dX0_passHour_90 rfl ?_
          refine zy_get (v := .int (σ6 q0 7)) X Z11 xL_ok hq0 rfl rfl (fun w h => List.mem_cons_of_mem _ (List.mem_append_left _ (List.mem_append_left _ (List.mem_append_right _ h)))) 7 rfl (zz_m 9 rfl) rfl dX0_passHour_91 ?_
          refine lv_iconst (v := 1) hx hb dX0_passHour_94 (by decide) ?_
          refine lv_iadd hx hb dX0_passHour_95 ?_
          obtain ⟨σ12, es13, hf14⟩ := zLet hf8
          clear hf8
          refine zy_put (v := (σ6 q0 7) + 1) (σ' := σ12) X Z11 xL_ok hq0 rfl rfl (fun w h => List.mem_cons_of_mem _ (List.mem_append_left _ (List.mem_append_left _ (List.mem_append_right _ h)))) tyX0 tyX0_ok nmX0 7 rfl (zz_m 9 rfl) rfl rfl rfl (fun _ => rfl) (fun _ => rfl) es13 dX0_passHour_96 (fun H15 lo16 Z17 => ?_)
          clear Z11 es13
          exact zy_vret X hr hlk Z17 (zEnd hf14) dX0_passHour_99
        · have hf18 := zNot hf11_ b3
          clear hf11_
          refine lv_aload_n hx hb dX0_passHour_19 rfl (lv_at hl11_ 0 rfl) ?_
          refine zy_get (v := .ref (ad (q0 + 1))) X Z11_ xL_ok hq0 rfl rfl (fun w h => List.mem_cons_of_mem _ (List.mem_append_left _ (List.mem_append_left _ (List.mem_append_right _ h)))) 1 rfl (zz_m 3 rfl) rfl dX0_passHour_20 ?_
          refine lv_iload_n hx hb dX0_passHour_23 rfl (lv_at hl11_ 1 rfl) ?_
          obtain ⟨⟨i19, j20⟩, hf21⟩ := zG hf18
          clear hf18
          refine zy_ald (v := ((q0 + 1) + 2 + (Int32.toNatClampNeg x2))) (C := RX4) X Z11_ xL_ok (xB1 hq0) rfl rfl (xB1l hq0) rfl i19 rfl dX0_passHour_24 ?_
          refine lv_astore_n (lv' := [(3, .ref (ad ((q0 + 1) + 2 + (Int32.toNatClampNeg x2)))), (0, .ref (ad q0)), (2, .int x2)]) hx hb dX0_passHour_25 rfl hl11_ (by decide) rfl (fun ls23 hl22 => ?_)
          clear hl11_
          refine lv_aload_n hx hb dX0_passHour_26 rfl (lv_at hl22 1 rfl) ?_
          refine lv_aload_n hx hb dX0_passHour_27 rfl (lv_at hl22 0 rfl) ?_
          obtain ⟨r24, σ25, hc26, hf27⟩ := zBd hf21
          clear hf21
          refine zy_ci (r0 := r24) (WS1 := zg_W XL ad cA σ25) (TYS1 := zg_T XL cA) Z11_ (va_runV (As := [.ref (ad ((q0 + 1) + 2 + (Int32.toNatClampNeg x2)))]) (rest := []) X (c_X0_lossOf l D V ad cA q0 ((q0 + 1) + 2 + (Int32.toNatClampNeg x2)) hq0 (xS (xB1 hq0) j20) σ r24 σ25 hc26 H11_.size) (cwV 1 hts gX0_passHour_X0_lossOf rfl rfl rfl ⟨rfl, zh_X0_lossOf⟩ ⟨Nat.le_of_ble_eq_true rfl, Nat.le_of_ble_eq_true rfl⟩) (zy_pV (ci := 0) Z11_ xL_ok hq0 rfl rfl) rfl rfl hl22.1 rfl (lv_room (Nat.le_of_ble_eq_true rfl)) dX0_passHour_28 ⟨Nat.le_of_ble_eq_true rfl, Nat.le_of_ble_eq_true rfl⟩) (fun H28 lo29 Z30 => ?_)
          clear Z11_ hc26
          refine lv_istore (lv' := [(4, .int r24), (3, .ref (ad ((q0 + 1) + 2 + (Int32.toNatClampNeg x2)))), (0, .ref (ad q0)), (2, .int x2)]) hx hb dX0_passHour_31 hl22 (by decide) rfl (fun ls32 hl31 => ?_)
          clear hl22
          refine lv_aload_n hx hb dX0_passHour_33 rfl (lv_at hl31 1 rfl) ?_
          refine lv_dup hx hb dX0_passHour_34 rfl ?_
          refine zy_get (v := .int (σ25 ((q0 + 1) + 2 + (Int32.toNatClampNeg x2)) 2)) X Z30 xL_ok (xS (xB1 hq0) j20) rfl rfl (fun w h => List.mem_cons_of_mem _ (List.mem_append_left _ (List.mem_append_right _ h))) 2 rfl (zz_m 4 rfl) rfl dX0_passHour_35 ?_
          refine lv_iload hx hb dX0_passHour_38 (lv_at hl31 0 rfl) ?_
          refine lv_isub hx hb dX0_passHour_40 ?_
          obtain ⟨y33, ey34, hf35⟩ := zLet hf27
          clear hf27
          refine zz_v (v := y33) ey34.symm ?_
          clear ey34
          obtain ⟨σ36, es37, hf38⟩ := zLet hf35
          clear hf35
          refine zy_put (v := y33) (σ' := σ36) X Z30 xL_ok (xS (xB1 hq0) j20) rfl rfl (fun w h => List.mem_cons_of_mem _ (List.mem_append_left _ (List.mem_append_right _ h))) tyX4 tyX4_ok nmX4 2 rfl (zz_m 4 rfl) rfl rfl rfl (fun _ => rfl) (fun _ => rfl) es37 dX0_passHour_41 (fun H39 lo40 Z41 => ?_)
          clear Z30 es37
          refine lv_aload_n hx hb dX0_passHour_44 rfl (lv_at hl31 2 rfl) ?_
          refine lv_dup hx hb dX0_passHour_45 rfl ?_
          refine zy_get (v := .int (σ36 q0 11)) X Z41 xL_ok hq0 rfl rfl (fun w h => List.mem_cons_of_mem _ (List.mem_append_left _ (List.mem_append_left _ (List.mem_append_right _ h)))) 11 rfl (zz_m 5 rfl) rfl dX0_passHour_46 ?_
          refine lv_iload hx hb dX0_passHour_49 (lv_at hl31 0 rfl) ?_
          refine lv_iadd hx hb dX0_passHour_51 ?_
          obtain ⟨σ42, es43, hf44⟩ := zLet hf38
          clear hf38
          refine zy_put (v := (σ36 q0 11) + r24) (σ' := σ42) X Z41 xL_ok hq0 rfl rfl (fun w h => List.mem_cons_of_mem _ (List.mem_append_left _ (List.mem_append_left _ (List.mem_append_right _ h)))) tyX0 tyX0_ok nmX0 11 rfl (zz_m 5 rfl) rfl rfl rfl (fun _ => rfl) (fun _ => rfl) es43 dX0_passHour_52 (fun H45 lo46 Z47 => ?_)
          clear Z41 es43
          refine lv_aload_n hx hb dX0_passHour_55 rfl (lv_at hl31 2 rfl) ?_
          refine lv_aload_n hx hb dX0_passHour_56 rfl (lv_at hl31 1 rfl) ?_
          refine zy_get (v := .int (σ42 ((q0 + 1) + 2 + (Int32.toNatClampNeg x2)) 1)) X Z47 xL_ok (xS (xB1 hq0) j20) rfl rfl (fun w h => List.mem_cons_of_mem _ (List.mem_append_left _ (List.mem_append_right _ h))) 1 rfl (zz_m 6 rfl) rfl dX0_passHour_57 ?_
          obtain ⟨r48, σ49, hc50, hf51⟩ := zBd hf44
          clear hf44
          refine zy_ci (r0 := r48) (WS1 := zg_W XL ad cA σ49) (TYS1 := zg_T XL cA) Z47 (va_runV (As := [.int (σ42 ((q0 + 1) + 2 + (Int32.toNatClampNeg x2)) 1)]) (rest := []) X (c_X0_shades l D V ad cA q0 (σ42 ((q0 + 1) + 2 + (Int32.toNatClampNeg x2)) 1) hq0 σ42 r48 σ49 hc50 H45.size) (cwV 1 hts gX0_passHour_X0_shades rfl rfl rfl ⟨rfl, zh_X0_shades⟩ ⟨Nat.le_of_ble_eq_true rfl, Nat.le_of_ble_eq_true rfl⟩) (zy_pV (ci := 0) Z47 xL_ok hq0 rfl rfl) rfl rfl hl31.1 rfl (lv_room (Nat.le_of_ble_eq_true rfl)) dX0_passHour_60 ⟨Nat.le_of_ble_eq_true rfl, Nat.le_of_ble_eq_true rfl⟩) (fun H52 lo53 Z54 => ?_)
          clear Z47 hc50
          refine lv_if_eq (tgt := 79) hx hb dX0_passHour_63 (by decide) (fun b55 => ?_) (fun b55 => ?_)
          · have hf56 := zYes hf51 b55
            clear hf51
            exact b79_ x2 σ49 hf56 _ _ _ Z54 (lv_sub hl31 [2, 3] rfl)
          · have hf57 := zNot hf51 b55
            clear hf51
            refine lv_aload_n hx hb dX0_passHour_66 rfl (lv_at hl31 2 rfl) ?_
            refine lv_dup hx hb dX0_passHour_67 rfl ?_
            refine zy_get (v := .int (σ49 q0 10)) X Z54 xL_ok hq0 rfl rfl (fun w h => List.mem_cons_of_mem _ (List.mem_append_left _ (List.mem_append_left _ (List.mem_append_right _ h)))) 10 rfl (zz_m 7 rfl) rfl dX0_passHour_68 ?_
            refine lv_aload_n hx hb dX0_passHour_71 rfl (lv_at hl31 1 rfl) ?_
            refine zy_get (v := .int (σ49 ((q0 + 1) + 2 + (Int32.toNatClampNeg x2)) 3)) X Z54 xL_ok (xS (xB1 hq0) j20) rfl rfl (fun w h => List.mem_cons_of_mem _ (List.mem_append_left _ (List.mem_append_right _ h))) 3 rfl (zz_m 8 rfl) rfl dX0_passHour_72 ?_
            refine lv_iadd hx hb dX0_passHour_75 ?_
            obtain ⟨y58, ey59, hf60⟩ := zLet hf57
            clear hf57
            refine zz_v (v := y58) ey59.symm ?_
            clear ey59
            obtain ⟨σ61, es62, hf63⟩ := zLet hf60
            clear hf60
            refine zy_put (v := y58) (σ' := σ61) X Z54 xL_ok hq0 rfl rfl (fun w h => List.mem_cons_of_mem _ (List.mem_append_left _ (List.mem_append_left _ (List.mem_append_right _ h)))) tyX0 tyX0_ok nmX0 10 rfl (zz_m 7 rfl) rfl rfl rfl (fun _ => rfl) (fun _ => rfl) es62 dX0_passHour_76 (fun H64 lo65 Z66 => ?_)
            clear Z54 es62
            exact b79_ x2 σ61 hf63 _ _ _ Z66 (lv_sub hl31 [2, 3] rfl)
  refine lv_aload_n hx hb dX0_passHour_0 rfl (lv_at hl 0 rfl) ?_
  refine lv_aload_n hx hb dX0_passHour_1 rfl (lv_at hl 0 rfl) ?_
  refine lv_iload_n hx hb dX0_passHour_2 rfl (lv_at hl 1 rfl) ?_
  obtain ⟨r67, σ68, hc69, hf70⟩ := zBd hf
  clear hf
  refine zy_ci (r0 := r67) (WS1 := zg_W XL ad cA σ68) (TYS1 := zg_T XL cA) Z (va_runV (As := [.int a1]) (rest := [.ref (ad q0)]) X (c_X0_hauledTo l D V ad cA q0 a1 hq0 σ r67 σ68 hc69 s.heap.size) (cwV 1 hts gX0_passHour_X0_hauledTo rfl rfl rfl ⟨rfl, zh_X0_hauledTo⟩ ⟨Nat.le_of_ble_eq_true rfl, Nat.le_of_ble_eq_true rfl⟩) (zy_pV (ci := 0) Z xL_ok hq0 rfl rfl) rfl rfl hl.1 rfl (lv_room (Nat.le_of_ble_eq_true rfl)) dX0_passHour_3 ⟨Nat.le_of_ble_eq_true rfl, Nat.le_of_ble_eq_true rfl⟩) (fun H71 lo72 Z73 => ?_)
  clear Z hc69
  obtain ⟨σ74, es75, hf76⟩ := zLet hf70
  clear hf70
  refine zy_put (v := r67) (σ' := σ74) X Z73 xL_ok hq0 rfl rfl (fun w h => List.mem_cons_of_mem _ (List.mem_append_left _ (List.mem_append_left _ (List.mem_append_right _ h)))) tyX0 tyX0_ok nmX0 6 rfl (zz_m 1 rfl) rfl rfl rfl (fun _ => rfl) (fun _ => rfl) es75 dX0_passHour_6 (fun H77 lo78 Z79 => ?_)
  clear Z73 es75
  refine lv_iconst (v := 0) hx hb dX0_passHour_9 (by decide) ?_
  refine lv_istore_n (lv' := [(2, .int 0), (0, .ref (ad q0)), (1, .int a1)]) hx hb dX0_passHour_10 rfl hl (by decide) rfl (fun ls81 hl80 => ?_)
  clear hl
  exact b11_ zfu 0 σ74 hf76 _ _ _ Z79 (lv_sub hl80 [1, 0] rfl)
def B_X0_shadedSet_34 (q0 : Nat) (rec4_ : Int32 → Int32 → zg_S → Option (Int32 × zg_S)) (x1 : Int32) (x2 : Int32) (σ : zg_S) : Option (Int32 × zg_S) := rec4_ x1 (x2 + 1) σ
def B_X0_shadedSet_4 (q0 : Nat) (rec4_ : Int32 → Int32 → zg_S → Option (Int32 × zg_S)) (x1 : Int32) (x2 : Int32) (σ : zg_S) : Option (Int32 × zg_S) := (if (σ q0 3) ≤ x2 then some (x1, σ) else (if zin x2 9 = true then zbd (f_X0_shades q0 (σ ((q0 + 1) + 2 + (Int32.toNatClampNeg x2)) 1) σ) (fun (r9 : Int32) (σ10 : zg_S) => (if r9 = 0 then B_X0_shadedSet_34 q0 rec4_ x1 x2 σ10 else B_X0_shadedSet_34 q0 rec4_ (x1 ||| (1 <<< (x2 &&& 31))) x2 σ10)) else none))
def L_X0_shadedSet_4 (q0 : Nat) : Nat → Int32 → Int32 → zg_S → Option (Int32 × zg_S) := zfix (fun _ _ _ => none) (B_X0_shadedSet_4 q0)
def f_X0_shadedSet (q0 : Nat) (σ : zg_S) : Option (Int32 × zg_S) := L_X0_shadedSet_4 q0 zfu 0 0 σ
set_option maxHeartbeats 4000000 in
set_option maxRecDepth 100000 in
theorem c_X0_shadedSet (l : Launch) (D : va_G) (V : zz_V) (ad : Nat → Nat) (cA : Nat → ClassId) (q0 : Nat) (hq0 : XL.2.1 q0 = 0) (σ : zg_S) (r0 : Int32) (σf : zg_S) (hf : f_X0_shadedSet q0 σ = some (r0, σf)) : zM_I l yX0_shadedSet wsX0_shadedSet 3 64 D V XL ad cA [.ref (ad q0)] σ r0 σf := by
  intro sz
  refine Met.ofW (cc := cX0_shadedSet) (maxL := 3) (ret := (some .int)) (by decide) rfl ?_
  intro p e s m args below meth c s₁ B hml hv
  obtain ⟨rfl, hC⟩ := hv
  have hx := B.exec
  have hb := B.bytes
  have hr := B.returns
  have hts := atoms_spec (ws := wsX0_shadedSet) B.pre
  have hown : s.vm.findClass RX0 = some m.cls := findClass_of_methodNamed B.named
  have hlk := B.notSynchronized
  have X : CallFix p m c cX0_shadedSet 3 s _ wsX0_shadedSet RX0 := ⟨hx, hb, hml, hown, hts⟩
  have Z := zz_enter hC
  generalize va_A (zg_W XL ad cA σ) sz = A at Z ⊢
  have hl := lv_entry ([.ref (ad q0)]) (n := 3) (Nat.le_of_ble_eq_true rfl)
  rw [lg_entry_eq]
  generalize (lg_sl ([.ref (ad q0)]) ++ List.replicate (3 - (lg_sl ([.ref (ad q0)])).length) Slot.unset).toArray = ls at hl ⊢
  have hl : lv_has ls 3 [(0, .ref (ad q0))] := hl
  unfold f_X0_shadedSet at hf
  have b4_ : ∀ (k4_ : Nat) (x1 : Int32) (x2 : Int32) (σ : zg_S), L_X0_shadedSet_4 q0 k4_ x1 x2 σ = some (r0, σf) → ∀ (H : Heap) (locs : List Loc) (ls : Array Slot), zz_S D V A s (zg_W XL ad cA σ) (zg_T XL cA) H locs → lv_has ls 3 [(0, .ref (ad q0)), (1, .int x1), (2, .int x2)] → W p l e (headSpec wsX0_shadedSet { frames := 3, cells := 0, slots := 0, locals := 64 }).room s m (List.toArray [.ref (ad q0)]) below meth c H locs 0 0 (MQ below (va_Qi (fun r (_ : Unit) => r = r0) (fun _ t => zz_B D A (zg_W XL ad cA σf) (zg_T XL cA) t) A) (List.toArray [.ref (ad q0)]) s 0 0 A) (F0 m 4 ls []) := by
    intro k4_
    induction k4_ with
    | zero =>
        intro x1 x2 σ hf4_ H4_ locs4_ ls4_ Z4_ hl4_
        exact zNone hf4_
    | succ k4_ ih4_ =>
        intro x1 x2 σ hf4_ H4_ locs4_ ls4_ Z4_ hl4_
        replace hf4_ : B_X0_shadedSet_4 q0 (L_X0_shadedSet_4 q0 k4_) x1 x2 σ = some (r0, σf) := hf4_
        unfold B_X0_shadedSet_4 at hf4_
        have b34_ : ∀ (x1 : Int32) (x2 : Int32) (σ : zg_S), B_X0_shadedSet_34 q0 (L_X0_shadedSet_4 q0 k4_) x1 x2 σ = some (r0, σf) → ∀ (H : Heap) (locs : List Loc) (ls : Array Slot), zz_S D V A s (zg_W XL ad cA σ) (zg_T XL cA) H locs → lv_has ls 3 [(0, .ref (ad q0)), (1, .int x1), (2, .int x2)] → W p l e (headSpec wsX0_shadedSet { frames := 3, cells := 0, slots := 0, locals := 64 }).room s m (List.toArray [.ref (ad q0)]) below meth c H locs 0 0 (MQ below (va_Qi (fun r (_ : Unit) => r = r0) (fun _ t => zz_B D A (zg_W XL ad cA σf) (zg_T XL cA) t) A) (List.toArray [.ref (ad q0)]) s 0 0 A) (F0 m 34 ls []) := by
          intro x1 x2 σ hf34_ H34_ locs34_ ls34_ Z34_ hl34_
          unfold B_X0_shadedSet_34 at hf34_
          refine lv_iinc (v := (x2 + 1)) (lv' := [(2, .int (x2 + 1)), (0, .ref (ad q0)), (1, .int x1)]) hx hb dX0_shadedSet_34 hl34_ (k := 2) rfl rfl (by decide) rfl (fun ls2 hl1 => ?_)
          clear hl34_
          refine lv_goto (tgt := 4) hx hb dX0_shadedSet_37 (by decide) ?_
          exact ih4_ x1 (x2 + 1) σ hf34_ _ _ _ Z34_ (lv_sub hl1 [1, 2, 0] rfl)
        refine lv_iload_n hx hb dX0_shadedSet_4 rfl (lv_at hl4_ 2 rfl) ?_
        refine lv_aload_n hx hb dX0_shadedSet_5 rfl (lv_at hl4_ 0 rfl) ?_
        refine zy_get (v := .int (σ q0 3)) X Z4_ xL_ok hq0 rfl rfl (fun w h => List.mem_cons_of_mem _ (List.mem_append_left _ (List.mem_append_right _ h))) 3 rfl (zz_m 1 rfl) rfl dX0_shadedSet_6 ?_
        refine lv_icmp_ge (tgt := 40) hx hb dX0_shadedSet_9 (by decide) (fun b3 => ?_) (fun b3 => ?_)
        · have hf4 := zYes hf4_ b3
          clear hf4_
          refine lv_iload_n hx hb dX0_shadedSet_40 rfl (lv_at hl4_ 1 rfl) ?_
          exact zy_iret X hr hlk Z4_ (zEnd hf4) dX0_shadedSet_41
        · have hf5 := zNot hf4_ b3
          clear hf4_
          refine lv_aload_n hx hb dX0_shadedSet_12 rfl (lv_at hl4_ 0 rfl) ?_
          refine lv_aload_n hx hb dX0_shadedSet_13 rfl (lv_at hl4_ 0 rfl) ?_
          refine zy_get (v := .ref (ad (q0 + 1))) X Z4_ xL_ok hq0 rfl rfl (fun w h => List.mem_cons_of_mem _ (List.mem_append_left _ (List.mem_append_right _ h))) 1 rfl (zz_m 2 rfl) rfl dX0_shadedSet_14 ?_
          refine lv_iload_n hx hb dX0_shadedSet_17 rfl (lv_at hl4_ 2 rfl) ?_
          obtain ⟨⟨i6, j7⟩, hf8⟩ := zG hf5
          clear hf5
          refine zy_ald (v := ((q0 + 1) + 2 + (Int32.toNatClampNeg x2))) (C := RX4) X Z4_ xL_ok (xB1 hq0) rfl rfl (xB1l hq0) rfl i6 rfl dX0_shadedSet_18 ?_
          refine zy_get (v := .int (σ ((q0 + 1) + 2 + (Int32.toNatClampNeg x2)) 1)) X Z4_ xL_ok (xS (xB1 hq0) j7) rfl rfl (fun w h => List.mem_cons_of_mem _ (List.mem_append_right _ h)) 1 rfl (zz_m 3 rfl) rfl dX0_shadedSet_19 ?_
          obtain ⟨r9, σ10, hc11, hf12⟩ := zBd hf8
          clear hf8
          refine zy_ci (r0 := r9) (WS1 := zg_W XL ad cA σ10) (TYS1 := zg_T XL cA) Z4_ (va_runV (As := [.int (σ ((q0 + 1) + 2 + (Int32.toNatClampNeg x2)) 1)]) (rest := []) X (c_X0_shades l D V ad cA q0 (σ ((q0 + 1) + 2 + (Int32.toNatClampNeg x2)) 1) hq0 σ r9 σ10 hc11 H4_.size) (cwV 1 hts gX0_shadedSet_X0_shades rfl rfl rfl ⟨rfl, zh_X0_shades⟩ ⟨Nat.le_of_ble_eq_true rfl, Nat.le_of_ble_eq_true rfl⟩) (zy_pV (ci := 0) Z4_ xL_ok hq0 rfl rfl) rfl rfl hl4_.1 rfl (lv_room (Nat.le_of_ble_eq_true rfl)) dX0_shadedSet_22 ⟨Nat.le_of_ble_eq_true rfl, Nat.le_of_ble_eq_true rfl⟩) (fun H13 lo14 Z15 => ?_)
          clear Z4_ hc11
          refine lv_if_eq (tgt := 34) hx hb dX0_shadedSet_25 (by decide) (fun b16 => ?_) (fun b16 => ?_)
          · have hf17 := zYes hf12 b16
            clear hf12
            exact b34_ x1 x2 σ10 hf17 _ _ _ Z15 (lv_sub hl4_ [0, 1, 2] rfl)
          · have hf18 := zNot hf12 b16
            clear hf12
            refine lv_iload_n hx hb dX0_shadedSet_28 rfl (lv_at hl4_ 1 rfl) ?_
            refine lv_iconst (v := 1) hx hb dX0_shadedSet_29 (by decide) ?_
            refine lv_iload_n hx hb dX0_shadedSet_30 rfl (lv_at hl4_ 2 rfl) ?_
            refine lv_ishl hx hb dX0_shadedSet_31 ?_
            refine lv_ior hx hb dX0_shadedSet_32 ?_
            refine lv_istore_n (lv' := [(1, .int (x1 ||| (1 <<< (x2 &&& 31)))), (0, .ref (ad q0)), (2, .int x2)]) hx hb dX0_shadedSet_33 rfl hl4_ (by decide) rfl (fun ls20 hl19 => ?_)
            clear hl4_
            exact b34_ (x1 ||| (1 <<< (x2 &&& 31))) x2 σ10 hf18 _ _ _ Z15 (lv_sub hl19 [1, 0, 2] rfl)
  refine lv_iconst (v := 0) hx hb dX0_shadedSet_0 (by decide) ?_
  refine lv_istore_n (lv' := [(1, .int 0), (0, .ref (ad q0))]) hx hb dX0_shadedSet_1 rfl hl (by decide) rfl (fun ls22 hl21 => ?_)
  clear hl
  refine lv_iconst (v := 0) hx hb dX0_shadedSet_2 (by decide) ?_
  refine lv_istore_n (lv' := [(2, .int 0), (1, .int 0), (0, .ref (ad q0))]) hx hb dX0_shadedSet_3 rfl hl21 (by decide) rfl (fun ls24 hl23 => ?_)
  clear hl21
  exact b4_ zfu 0 0 σ hf _ _ _ Z (lv_sub hl23 [2, 1, 0] rfl)
def f_X4_takeOver (q0 : Nat) (q1 : Nat) (σ : zg_S) : Option (Int32 × zg_S) := zlet (zg_up σ q0 0 (σ q1 0)) (fun (σ1 : zg_S) => zlet (zg_up σ1 q0 1 (σ1 q1 1)) (fun (σ7 : zg_S) => zlet (zg_up σ7 q0 2 (σ7 q1 2)) (fun (σ13 : zg_S) => zlet (zg_up σ13 q0 3 (σ13 q1 3)) (fun (σ19 : zg_S) => some (0, σ19)))))
set_option maxHeartbeats 4000000 in
set_option maxRecDepth 100000 in
theorem c_X4_takeOver (l : Launch) (D : va_G) (V : zz_V) (ad : Nat → Nat) (cA : Nat → ClassId) (q0 : Nat) (q1 : Nat) (hq0 : XL.2.1 q0 = 4) (hq1 : XL.2.1 q1 = 4) (σ : zg_S) (r0 : Int32) (σf : zg_S) (hf : f_X4_takeOver q0 q1 σ = some (r0, σf)) : zM_V l yX4_takeOver wsX4_takeOver 0 0 D V XL ad cA [.ref (ad q0), .ref (ad q1)] σ r0 σf := by
  intro sz
  refine Met.ofW (cc := cX4_takeOver) (maxL := 2) (ret := none) (by decide) rfl ?_
  intro p e s m args below meth c s₁ B hml hv
  obtain ⟨rfl, hC⟩ := hv
  have hx := B.exec
  have hb := B.bytes
  have hr := B.returns
  have hts := atoms_spec (ws := wsX4_takeOver) B.pre
  have hown : s.vm.findClass RX4 = some m.cls := findClass_of_methodNamed B.named
  have hlk := B.notSynchronized
  have X : CallFix p m c cX4_takeOver 2 s _ wsX4_takeOver RX4 := ⟨hx, hb, hml, hown, hts⟩
  have Z := zz_enter hC
  generalize va_A (zg_W XL ad cA σ) sz = A at Z ⊢
  have hl := lv_entry ([.ref (ad q0), .ref (ad q1)]) (n := 2) (Nat.le_of_ble_eq_true rfl)
  rw [lg_entry_eq]
  generalize (lg_sl ([.ref (ad q0), .ref (ad q1)]) ++ List.replicate (2 - (lg_sl ([.ref (ad q0), .ref (ad q1)])).length) Slot.unset).toArray = ls at hl ⊢
  have hl : lv_has ls 2 [(0, .ref (ad q0)), (1, .ref (ad q1))] := hl
  unfold f_X4_takeOver at hf
  refine lv_aload_n hx hb dX4_takeOver_0 rfl (lv_at hl 0 rfl) ?_
  refine lv_aload_n hx hb dX4_takeOver_1 rfl (lv_at hl 1 rfl) ?_
  refine zy_get (v := .int (σ q1 0)) X Z xL_ok hq1 rfl rfl (fun w h => List.mem_cons_of_mem _ (List.mem_append_right _ h)) 0 rfl (zz_m 1 rfl) rfl dX4_takeOver_2 ?_
  obtain ⟨σ1, es2, hf3⟩ := zLet hf
  clear hf
  refine zy_put (v := σ q1 0) (σ' := σ1) X Z xL_ok hq0 rfl rfl (fun w h => List.mem_cons_of_mem _ (List.mem_append_right _ h)) tyX4 tyX4_ok nmX4 0 rfl (zz_m 1 rfl) rfl rfl rfl (fun _ => rfl) (fun _ => rfl) es2 dX4_takeOver_5 (fun H4 lo5 Z6 => ?_)
  clear Z es2
  refine lv_aload_n hx hb dX4_takeOver_8 rfl (lv_at hl 0 rfl) ?_
  refine lv_aload_n hx hb dX4_takeOver_9 rfl (lv_at hl 1 rfl) ?_
  refine zy_get (v := .int (σ1 q1 1)) X Z6 xL_ok hq1 rfl rfl (fun w h => List.mem_cons_of_mem _ (List.mem_append_right _ h)) 1 rfl (zz_m 2 rfl) rfl dX4_takeOver_10 ?_
  obtain ⟨σ7, es8, hf9⟩ := zLet hf3
  clear hf3
  refine zy_put (v := σ1 q1 1) (σ' := σ7) X Z6 xL_ok hq0 rfl rfl (fun w h => List.mem_cons_of_mem _ (List.mem_append_right _ h)) tyX4 tyX4_ok nmX4 1 rfl (zz_m 2 rfl) rfl rfl rfl (fun _ => rfl) (fun _ => rfl) es8 dX4_takeOver_13 (fun H10 lo11 Z12 => ?_)
  clear Z6 es8
  refine lv_aload_n hx hb dX4_takeOver_16 rfl (lv_at hl 0 rfl) ?_
  refine lv_aload_n hx hb dX4_takeOver_17 rfl (lv_at hl 1 rfl) ?_
  refine zy_get (v := .int (σ7 q1 2)) X Z12 xL_ok hq1 rfl rfl (fun w h => List.mem_cons_of_mem _ (List.mem_append_right _ h)) 2 rfl (zz_m 3 rfl) rfl dX4_takeOver_18 ?_
  obtain ⟨σ13, es14, hf15⟩ := zLet hf9
  clear hf9
  refine zy_put (v := σ7 q1 2) (σ' := σ13) X Z12 xL_ok hq0 rfl rfl (fun w h => List.mem_cons_of_mem _ (List.mem_append_right _ h)) tyX4 tyX4_ok nmX4 2 rfl (zz_m 3 rfl) rfl rfl rfl (fun _ => rfl) (fun _ => rfl) es14 dX4_takeOver_21 (fun H16 lo17 Z18 => ?_)
  clear Z12 es14
  refine lv_aload_n hx hb dX4_takeOver_24 rfl (lv_at hl 0 rfl) ?_
  refine lv_aload_n hx hb dX4_takeOver_25 rfl (lv_at hl 1 rfl) ?_
  refine zy_get (v := .int (σ13 q1 3)) X Z18 xL_ok hq1 rfl rfl (fun w h => List.mem_cons_of_mem _ (List.mem_append_right _ h)) 3 rfl (zz_m 4 rfl) rfl dX4_takeOver_26 ?_
  obtain ⟨σ19, es20, hf21⟩ := zLet hf15
  clear hf15
  refine zy_put (v := σ13 q1 3) (σ' := σ19) X Z18 xL_ok hq0 rfl rfl (fun w h => List.mem_cons_of_mem _ (List.mem_append_right _ h)) tyX4 tyX4_ok nmX4 3 rfl (zz_m 4 rfl) rfl rfl rfl (fun _ => rfl) (fun _ => rfl) es20 dX4_takeOver_29 (fun H22 lo23 Z24 => ?_)
  clear Z18 es20
  exact zy_vret X hr hlk Z24 (zEnd hf21) dX4_takeOver_32
def B_X0_takeOver_49 (q0 : Nat) (q1 : Nat) (rec49_ : Int32 → zg_S → Option (Int32 × zg_S)) (x2 : Int32) (σ : zg_S) : Option (Int32 × zg_S) := (if 3 ≤ x2 then zlet (zg_up σ q0 5 (σ q1 5)) (fun (σ3 : zg_S) => zlet (zg_up σ3 q0 6 (σ3 q1 6)) (fun (σ9 : zg_S) => zlet (zg_up σ9 q0 7 (σ9 q1 7)) (fun (σ15 : zg_S) => zlet (zg_up σ15 q0 8 (σ15 q1 8)) (fun (σ21 : zg_S) => zlet (zg_up σ21 q0 9 (σ21 q1 9)) (fun (σ27 : zg_S) => zlet (zg_up σ27 q0 10 (σ27 q1 10)) (fun (σ33 : zg_S) => zlet (zg_up σ33 q0 11 (σ33 q1 11)) (fun (σ39 : zg_S) => zlet (zg_up σ39 q0 12 (σ39 q1 12)) (fun (σ45 : zg_S) => zlet (zg_up σ45 q0 13 (σ45 q1 13)) (fun (σ51 : zg_S) => some (0, σ51)))))))))) else (if zin x2 3 = true then zlet (σ (q1 + 2) (Int32.toNatClampNeg x2)) (fun (y61 : Int32) => zlet (zg_up σ (q0 + 2) (Int32.toNatClampNeg x2) y61) (fun (σ64 : zg_S) => rec49_ (x2 + 1) σ64)) else none))
def L_X0_takeOver_49 (q0 : Nat) (q1 : Nat) : Nat → Int32 → zg_S → Option (Int32 × zg_S) := zfix (fun _ _ => none) (B_X0_takeOver_49 q0 q1)
def B_X0_takeOver_10 (q0 : Nat) (q1 : Nat) (rec10_ : Int32 → zg_S → Option (Int32 × zg_S)) (x2 : Int32) (σ : zg_S) : Option (Int32 × zg_S) := (if (σ q0 3) ≤ x2 then zlet (zg_up σ q0 4 (σ q1 4)) (fun (σ74 : zg_S) => L_X0_takeOver_49 q0 q1 zfu 0 σ74) else (if zin x2 9 = true then zbd (f_X4_takeOver ((q0 + 1) + 2 + (Int32.toNatClampNeg x2)) ((q1 + 1) + 2 + (Int32.toNatClampNeg x2)) σ) (fun (r86 : Int32) (σ87 : zg_S) => rec10_ (x2 + 1) σ87) else none))
def L_X0_takeOver_10 (q0 : Nat) (q1 : Nat) : Nat → Int32 → zg_S → Option (Int32 × zg_S) := zfix (fun _ _ => none) (B_X0_takeOver_10 q0 q1)
def f_X0_takeOver (q0 : Nat) (q1 : Nat) (σ : zg_S) : Option (Int32 × zg_S) := zlet (zg_up σ q0 3 (σ q1 3)) (fun (σ95 : zg_S) => L_X0_takeOver_10 q0 q1 zfu 0 σ95)
set_option maxHeartbeats 4000000 in
set_option maxRecDepth 100000 in
theorem c_X0_takeOver (l : Launch) (D : va_G) (V : zz_V) (ad : Nat → Nat) (cA : Nat → ClassId) (q0 : Nat) (q1 : Nat) (hq0 : XL.2.1 q0 = 0) (hq1 : XL.2.1 q1 = 0) (σ : zg_S) (r0 : Int32) (σf : zg_S) (hf : f_X0_takeOver q0 q1 σ = some (r0, σf)) : zM_V l yX0_takeOver wsX0_takeOver 1 21 D V XL ad cA [.ref (ad q0), .ref (ad q1)] σ r0 σf := by
  intro sz
  refine Met.ofW (cc := cX0_takeOver) (maxL := 3) (ret := none) (by decide) rfl ?_
  intro p e s m args below meth c s₁ B hml hv
  obtain ⟨rfl, hC⟩ := hv
  have hx := B.exec
  have hb := B.bytes
  have hr := B.returns
  have hts := atoms_spec (ws := wsX0_takeOver) B.pre
  have hown : s.vm.findClass RX0 = some m.cls := findClass_of_methodNamed B.named
  have hlk := B.notSynchronized
  have X : CallFix p m c cX0_takeOver 3 s _ wsX0_takeOver RX0 := ⟨hx, hb, hml, hown, hts⟩
  have Z := zz_enter hC
  generalize va_A (zg_W XL ad cA σ) sz = A at Z ⊢
  have hl := lv_entry ([.ref (ad q0), .ref (ad q1)]) (n := 3) (Nat.le_of_ble_eq_true rfl)
  rw [lg_entry_eq]
  generalize (lg_sl ([.ref (ad q0), .ref (ad q1)]) ++ List.replicate (3 - (lg_sl ([.ref (ad q0), .ref (ad q1)])).length) Slot.unset).toArray = ls at hl ⊢
  have hl : lv_has ls 3 [(0, .ref (ad q0)), (1, .ref (ad q1))] := hl
  unfold f_X0_takeOver at hf
  have b10_ : ∀ (k10_ : Nat) (x2 : Int32) (σ : zg_S), L_X0_takeOver_10 q0 q1 k10_ x2 σ = some (r0, σf) → ∀ (H : Heap) (locs : List Loc) (ls : Array Slot), zz_S D V A s (zg_W XL ad cA σ) (zg_T XL cA) H locs → lv_has ls 3 [(0, .ref (ad q0)), (1, .ref (ad q1)), (2, .int x2)] → W p l e (headSpec wsX0_takeOver { frames := 1, cells := 0, slots := 0, locals := 21 }).room s m (List.toArray [.ref (ad q0), .ref (ad q1)]) below meth c H locs 0 0 (MQ below (va_Qv (fun (_ : Unit) => True) (fun _ t => zz_B D A (zg_W XL ad cA σf) (zg_T XL cA) t) A) (List.toArray [.ref (ad q0), .ref (ad q1)]) s 0 0 A) (F0 m 10 ls []) := by
    intro k10_
    induction k10_ with
    | zero =>
        intro x2 σ hf10_ H10_ locs10_ ls10_ Z10_ hl10_
        exact zNone hf10_
    | succ k10_ ih10_ =>
        intro x2 σ hf10_ H10_ locs10_ ls10_ Z10_ hl10_
        replace hf10_ : B_X0_takeOver_10 q0 q1 (L_X0_takeOver_10 q0 q1 k10_) x2 σ = some (r0, σf) := hf10_
        unfold B_X0_takeOver_10 at hf10_
        have b49_ : ∀ (k49_ : Nat) (x2 : Int32) (σ : zg_S), L_X0_takeOver_49 q0 q1 k49_ x2 σ = some (r0, σf) → ∀ (H : Heap) (locs : List Loc) (ls : Array Slot), zz_S D V A s (zg_W XL ad cA σ) (zg_T XL cA) H locs → lv_has ls 3 [(0, .ref (ad q0)), (1, .ref (ad q1)), (2, .int x2)] → W p l e (headSpec wsX0_takeOver { frames := 1, cells := 0, slots := 0, locals := 21 }).room s m (List.toArray [.ref (ad q0), .ref (ad q1)]) below meth c H locs 0 0 (MQ below (va_Qv (fun (_ : Unit) => True) (fun _ t => zz_B D A (zg_W XL ad cA σf) (zg_T XL cA) t) A) (List.toArray [.ref (ad q0), .ref (ad q1)]) s 0 0 A) (F0 m 49 ls []) := by
          intro k49_
          induction k49_ with
          | zero =>
              intro x2 σ hf49_ H49_ locs49_ ls49_ Z49_ hl49_
              exact zNone hf49_
          | succ k49_ ih49_ =>
              intro x2 σ hf49_ H49_ locs49_ ls49_ Z49_ hl49_
              replace hf49_ : B_X0_takeOver_49 q0 q1 (L_X0_takeOver_49 q0 q1 k49_) x2 σ = some (r0, σf) := hf49_
              unfold B_X0_takeOver_49 at hf49_
              refine lv_iload_n hx hb dX0_takeOver_49 rfl (lv_at hl49_ 2 rfl) ?_
              refine lv_iconst (v := 3) hx hb dX0_takeOver_50 (by decide) ?_
              refine lv_icmp_ge (tgt := 72) hx hb dX0_takeOver_51 (by decide) (fun b1 => ?_) (fun b1 => ?_)
              · have hf2 := zYes hf49_ b1
                clear hf49_
                refine lv_aload_n hx hb dX0_takeOver_72 rfl (lv_at hl49_ 0 rfl) ?_
                refine lv_aload_n hx hb dX0_takeOver_73 rfl (lv_at hl49_ 1 rfl) ?_
                refine zy_get (v := .int (σ q1 5)) X Z49_ xL_ok hq1 rfl rfl (fun w h => List.mem_cons_of_mem _ (List.mem_append_left _ (List.mem_append_right _ h))) 5 rfl (zz_m 5 rfl) rfl dX0_takeOver_74 ?_
                obtain ⟨σ3, es4, hf5⟩ := zLet hf2
                clear hf2
                refine zy_put (v := σ q1 5) (σ' := σ3) X Z49_ xL_ok hq0 rfl rfl (fun w h => List.mem_cons_of_mem _ (List.mem_append_left _ (List.mem_append_right _ h))) tyX0 tyX0_ok nmX0 5 rfl (zz_m 5 rfl) rfl rfl rfl (fun _ => rfl) (fun _ => rfl) es4 dX0_takeOver_77 (fun H6 lo7 Z8 => ?_)
                clear Z49_ es4
                refine lv_aload_n hx hb dX0_takeOver_80 rfl (lv_at hl49_ 0 rfl) ?_
                refine lv_aload_n hx hb dX0_takeOver_81 rfl (lv_at hl49_ 1 rfl) ?_
                refine zy_get (v := .int (σ3 q1 6)) X Z8 xL_ok hq1 rfl rfl (fun w h => List.mem_cons_of_mem _ (List.mem_append_left _ (List.mem_append_right _ h))) 6 rfl (zz_m 6 rfl) rfl dX0_takeOver_82 ?_
                obtain ⟨σ9, es10, hf11⟩ := zLet hf5
                clear hf5
                refine zy_put (v := σ3 q1 6) (σ' := σ9) X Z8 xL_ok hq0 rfl rfl (fun w h => List.mem_cons_of_mem _ (List.mem_append_left _ (List.mem_append_right _ h))) tyX0 tyX0_ok nmX0 6 rfl (zz_m 6 rfl) rfl rfl rfl (fun _ => rfl) (fun _ => rfl) es10 dX0_takeOver_85 (fun H12 lo13 Z14 => ?_)
                clear Z8 es10
                refine lv_aload_n hx hb dX0_takeOver_88 rfl (lv_at hl49_ 0 rfl) ?_
                refine lv_aload_n hx hb dX0_takeOver_89 rfl (lv_at hl49_ 1 rfl) ?_
                refine zy_get (v := .int (σ9 q1 7)) X Z14 xL_ok hq1 rfl rfl (fun w h => List.mem_cons_of_mem _ (List.mem_append_left _ (List.mem_append_right _ h))) 7 rfl (zz_m 7 rfl) rfl dX0_takeOver_90 ?_
                obtain ⟨σ15, es16, hf17⟩ := zLet hf11
                clear hf11
                refine zy_put (v := σ9 q1 7) (σ' := σ15) X Z14 xL_ok hq0 rfl rfl (fun w h => List.mem_cons_of_mem _ (List.mem_append_left _ (List.mem_append_right _ h))) tyX0 tyX0_ok nmX0 7 rfl (zz_m 7 rfl) rfl rfl rfl (fun _ => rfl) (fun _ => rfl) es16 dX0_takeOver_93 (fun H18 lo19 Z20 => ?_)
                clear Z14 es16
                refine lv_aload_n hx hb dX0_takeOver_96 rfl (lv_at hl49_ 0 rfl) ?_
                refine lv_aload_n hx hb dX0_takeOver_97 rfl (lv_at hl49_ 1 rfl) ?_
                refine zy_get (v := .int (σ15 q1 8)) X Z20 xL_ok hq1 rfl rfl (fun w h => List.mem_cons_of_mem _ (List.mem_append_left _ (List.mem_append_right _ h))) 8 rfl (zz_m 8 rfl) rfl dX0_takeOver_98 ?_
                obtain ⟨σ21, es22, hf23⟩ := zLet hf17
                clear hf17
                refine zy_put (v := σ15 q1 8) (σ' := σ21) X Z20 xL_ok hq0 rfl rfl (fun w h => List.mem_cons_of_mem _ (List.mem_append_left _ (List.mem_append_right _ h))) tyX0 tyX0_ok nmX0 8 rfl (zz_m 8 rfl) rfl rfl rfl (fun _ => rfl) (fun _ => rfl) es22 dX0_takeOver_101 (fun H24 lo25 Z26 => ?_)
                clear Z20 es22
                refine lv_aload_n hx hb dX0_takeOver_104 rfl (lv_at hl49_ 0 rfl) ?_
                refine lv_aload_n hx hb dX0_takeOver_105 rfl (lv_at hl49_ 1 rfl) ?_
                refine zy_get (v := .int (σ21 q1 9)) X Z26 xL_ok hq1 rfl rfl (fun w h => List.mem_cons_of_mem _ (List.mem_append_left _ (List.mem_append_right _ h))) 9 rfl (zz_m 9 rfl) rfl dX0_takeOver_106 ?_
                obtain ⟨σ27, es28, hf29⟩ := zLet hf23
                clear hf23
                refine zy_put (v := σ21 q1 9) (σ' := σ27) X Z26 xL_ok hq0 rfl rfl (fun w h => List.mem_cons_of_mem _ (List.mem_append_left _ (List.mem_append_right _ h))) tyX0 tyX0_ok nmX0 9 rfl (zz_m 9 rfl) rfl rfl rfl (fun _ => rfl) (fun _ => rfl) es28 dX0_takeOver_109 (fun H30 lo31 Z32 => ?_)
                clear Z26 es28
                refine lv_aload_n hx hb dX0_takeOver_112 rfl (lv_at hl49_ 0 rfl) ?_
                refine lv_aload_n hx hb dX0_takeOver_113 rfl (lv_at hl49_ 1 rfl) ?_
                refine zy_get (v := .int (σ27 q1 10)) X Z32 xL_ok hq1 rfl rfl (fun w h => List.mem_cons_of_mem _ (List.mem_append_left _ (List.mem_append_right _ h))) 10 rfl (zz_m 10 rfl) rfl dX0_takeOver_114 ?_
                obtain ⟨σ33, es34, hf35⟩ := zLet hf29
                clear hf29
                refine zy_put (v := σ27 q1 10) (σ' := σ33) X Z32 xL_ok hq0 rfl rfl (fun w h => List.mem_cons_of_mem _ (List.mem_append_left _ (List.mem_append_right _ h))) tyX0 tyX0_ok nmX0 10 rfl (zz_m 10 rfl) rfl rfl rfl (fun _ => rfl) (fun _ => rfl) es34 dX0_takeOver_117 (fun H36 lo37 Z38 => ?_)
                clear Z32 es34
                refine lv_aload_n hx hb dX0_takeOver_120 rfl (lv_at hl49_ 0 rfl) ?_
                refine lv_aload_n hx hb dX0_takeOver_121 rfl (lv_at hl49_ 1 rfl) ?_
                refine zy_get (v := .int (σ33 q1 11)) X Z38 xL_ok hq1 rfl rfl (fun w h => List.mem_cons_of_mem _ (List.mem_append_left _ (List.mem_append_right _ h))) 11 rfl (zz_m 11 rfl) rfl dX0_takeOver_122 ?_
                obtain ⟨σ39, es40, hf41⟩ := zLet hf35
                clear hf35
                refine zy_put (v := σ33 q1 11) (σ' := σ39) X Z38 xL_ok hq0 rfl rfl (fun w h => List.mem_cons_of_mem _ (List.mem_append_left _ (List.mem_append_right _ h))) tyX0 tyX0_ok nmX0 11 rfl (zz_m 11 rfl) rfl rfl rfl (fun _ => rfl) (fun _ => rfl) es40 dX0_takeOver_125 (fun H42 lo43 Z44 => ?_)
                clear Z38 es40
                refine lv_aload_n hx hb dX0_takeOver_128 rfl (lv_at hl49_ 0 rfl) ?_
                refine lv_aload_n hx hb dX0_takeOver_129 rfl (lv_at hl49_ 1 rfl) ?_
                refine zy_get (v := .int (σ39 q1 12)) X Z44 xL_ok hq1 rfl rfl (fun w h => List.mem_cons_of_mem _ (List.mem_append_left _ (List.mem_append_right _ h))) 12 rfl (zz_m 12 rfl) rfl dX0_takeOver_130 ?_
                obtain ⟨σ45, es46, hf47⟩ := zLet hf41
                clear hf41
                refine zy_put (v := σ39 q1 12) (σ' := σ45) X Z44 xL_ok hq0 rfl rfl (fun w h => List.mem_cons_of_mem _ (List.mem_append_left _ (List.mem_append_right _ h))) tyX0 tyX0_ok nmX0 12 rfl (zz_m 12 rfl) rfl rfl rfl (fun _ => rfl) (fun _ => rfl) es46 dX0_takeOver_133 (fun H48 lo49 Z50 => ?_)
                clear Z44 es46
                refine lv_aload_n hx hb dX0_takeOver_136 rfl (lv_at hl49_ 0 rfl) ?_
                refine lv_aload_n hx hb dX0_takeOver_137 rfl (lv_at hl49_ 1 rfl) ?_
                refine zy_get (v := .int (σ45 q1 13)) X Z50 xL_ok hq1 rfl rfl (fun w h => List.mem_cons_of_mem _ (List.mem_append_left _ (List.mem_append_right _ h))) 13 rfl (zz_m 13 rfl) rfl dX0_takeOver_138 ?_
                obtain ⟨σ51, es52, hf53⟩ := zLet hf47
                clear hf47
                refine zy_put (v := σ45 q1 13) (σ' := σ51) X Z50 xL_ok hq0 rfl rfl (fun w h => List.mem_cons_of_mem _ (List.mem_append_left _ (List.mem_append_right _ h))) tyX0 tyX0_ok nmX0 13 rfl (zz_m 13 rfl) rfl rfl rfl (fun _ => rfl) (fun _ => rfl) es52 dX0_takeOver_141 (fun H54 lo55 Z56 => ?_)
                clear Z50 es52
                exact zy_vret X hr hlk Z56 (zEnd hf53) dX0_takeOver_144
              · have hf57 := zNot hf49_ b1
                clear hf49_
                refine lv_aload_n hx hb dX0_takeOver_54 rfl (lv_at hl49_ 0 rfl) ?_
                refine zy_get (v := .ref (ad (q0 + 2))) X Z49_ xL_ok hq0 rfl rfl (fun w h => List.mem_cons_of_mem _ (List.mem_append_left _ (List.mem_append_right _ h))) 2 rfl (zz_m 4 rfl) rfl dX0_takeOver_55 ?_
                refine lv_iload_n hx hb dX0_takeOver_58 rfl (lv_at hl49_ 2 rfl) ?_
                refine lv_aload_n hx hb dX0_takeOver_59 rfl (lv_at hl49_ 1 rfl) ?_
                refine zy_get (v := .ref (ad (q1 + 2))) X Z49_ xL_ok hq1 rfl rfl (fun w h => List.mem_cons_of_mem _ (List.mem_append_left _ (List.mem_append_right _ h))) 2 rfl (zz_m 4 rfl) rfl dX0_takeOver_60 ?_
                refine lv_iload_n hx hb dX0_takeOver_63 rfl (lv_at hl49_ 2 rfl) ?_
                obtain ⟨⟨i58, j59⟩, hf60⟩ := zG hf57
                clear hf57
                refine zy_ild X Z49_ xL_ok (xB2 hq1) (xB2l hq1) i58 dX0_takeOver_64 ?_
                obtain ⟨y61, ey62, hf63⟩ := zLet hf60
                clear hf60
                refine zz_v (v := y61) ey62.symm ?_
                clear ey62
                obtain ⟨σ64, es65, hf66⟩ := zLet hf63
                clear hf63
                refine zy_ist (σ' := σ64) X Z49_ xL_ok (xB2 hq0) (xB2l hq0) i58 es65 dX0_takeOver_65 (fun H67 lo68 Z69 => ?_)
                clear Z49_ es65
                refine lv_iinc (v := (x2 + 1)) (lv' := [(2, .int (x2 + 1)), (0, .ref (ad q0)), (1, .ref (ad q1))]) hx hb dX0_takeOver_66 hl49_ (k := 2) rfl rfl (by decide) rfl (fun ls71 hl70 => ?_)
                clear hl49_
                refine lv_goto (tgt := 49) hx hb dX0_takeOver_69 (by decide) ?_
                exact ih49_ (x2 + 1) σ64 hf66 _ _ _ Z69 (lv_sub hl70 [1, 2, 0] rfl)
        refine lv_iload_n hx hb dX0_takeOver_10 rfl (lv_at hl10_ 2 rfl) ?_
        refine lv_aload_n hx hb dX0_takeOver_11 rfl (lv_at hl10_ 0 rfl) ?_
        refine zy_get (v := .int (σ q0 3)) X Z10_ xL_ok hq0 rfl rfl (fun w h => List.mem_cons_of_mem _ (List.mem_append_left _ (List.mem_append_right _ h))) 3 rfl (zz_m 1 rfl) rfl dX0_takeOver_12 ?_
        refine lv_icmp_ge (tgt := 39) hx hb dX0_takeOver_15 (by decide) (fun b72 => ?_) (fun b72 => ?_)
        · have hf73 := zYes hf10_ b72
          clear hf10_
          refine lv_aload_n hx hb dX0_takeOver_39 rfl (lv_at hl10_ 0 rfl) ?_
          refine lv_aload_n hx hb dX0_takeOver_40 rfl (lv_at hl10_ 1 rfl) ?_
          refine zy_get (v := .int (σ q1 4)) X Z10_ xL_ok hq1 rfl rfl (fun w h => List.mem_cons_of_mem _ (List.mem_append_left _ (List.mem_append_right _ h))) 4 rfl (zz_m 3 rfl) rfl dX0_takeOver_41 ?_
          obtain ⟨σ74, es75, hf76⟩ := zLet hf73
          clear hf73
          refine zy_put (v := σ q1 4) (σ' := σ74) X Z10_ xL_ok hq0 rfl rfl (fun w h => List.mem_cons_of_mem _ (List.mem_append_left _ (List.mem_append_right _ h))) tyX0 tyX0_ok nmX0 4 rfl (zz_m 3 rfl) rfl rfl rfl (fun _ => rfl) (fun _ => rfl) es75 dX0_takeOver_44 (fun H77 lo78 Z79 => ?_)
          clear Z10_ es75
          refine lv_iconst (v := 0) hx hb dX0_takeOver_47 (by decide) ?_
          refine lv_istore_n (lv' := [(2, .int 0), (0, .ref (ad q0)), (1, .ref (ad q1))]) hx hb dX0_takeOver_48 rfl hl10_ (by decide) rfl (fun ls81 hl80 => ?_)
          clear hl10_
          exact b49_ zfu 0 σ74 hf76 _ _ _ Z79 (lv_sub hl80 [1, 2, 0] rfl)
        · have hf82 := zNot hf10_ b72
          clear hf10_
          refine lv_aload_n hx hb dX0_takeOver_18 rfl (lv_at hl10_ 0 rfl) ?_
          refine zy_get (v := .ref (ad (q0 + 1))) X Z10_ xL_ok hq0 rfl rfl (fun w h => List.mem_cons_of_mem _ (List.mem_append_left _ (List.mem_append_right _ h))) 1 rfl (zz_m 2 rfl) rfl dX0_takeOver_19 ?_
          refine lv_iload_n hx hb dX0_takeOver_22 rfl (lv_at hl10_ 2 rfl) ?_
          obtain ⟨⟨i83, j84⟩, hf85⟩ := zG hf82
          clear hf82
          refine zy_ald (v := ((q0 + 1) + 2 + (Int32.toNatClampNeg x2))) (C := RX4) X Z10_ xL_ok (xB1 hq0) rfl rfl (xB1l hq0) rfl i83 rfl dX0_takeOver_23 ?_
          refine lv_aload_n hx hb dX0_takeOver_24 rfl (lv_at hl10_ 1 rfl) ?_
          refine zy_get (v := .ref (ad (q1 + 1))) X Z10_ xL_ok hq1 rfl rfl (fun w h => List.mem_cons_of_mem _ (List.mem_append_left _ (List.mem_append_right _ h))) 1 rfl (zz_m 2 rfl) rfl dX0_takeOver_25 ?_
          refine lv_iload_n hx hb dX0_takeOver_28 rfl (lv_at hl10_ 2 rfl) ?_
          refine zy_ald (v := ((q1 + 1) + 2 + (Int32.toNatClampNeg x2))) (C := RX4) X Z10_ xL_ok (xB1 hq1) rfl rfl (xB1l hq1) rfl i83 rfl dX0_takeOver_29 ?_
          obtain ⟨r86, σ87, hc88, hf89⟩ := zBd hf85
          clear hf85
          refine zy_cv (WS1 := zg_W XL ad cA σ87) (TYS1 := zg_T XL cA) Z10_ (va_runV (As := [.ref (ad ((q1 + 1) + 2 + (Int32.toNatClampNeg x2)))]) (rest := []) X (c_X4_takeOver l D V ad cA ((q0 + 1) + 2 + (Int32.toNatClampNeg x2)) ((q1 + 1) + 2 + (Int32.toNatClampNeg x2)) (xS (xB1 hq0) j84) (xS (xB1 hq1) j84) σ r86 σ87 hc88 H10_.size) (cwV 1 hts gX0_takeOver_X4_takeOver rfl rfl rfl ⟨rfl, zh_X4_takeOver⟩ ⟨Nat.le_of_ble_eq_true rfl, Nat.le_of_ble_eq_true rfl⟩) (zy_pV (ci := 4) Z10_ xL_ok (xS (xB1 hq0) j84) rfl rfl) rfl rfl hl10_.1 rfl (lv_room (Nat.le_of_ble_eq_true rfl)) dX0_takeOver_30 ⟨Nat.le_of_ble_eq_true rfl, Nat.le_of_ble_eq_true rfl⟩) (fun H90 lo91 Z92 => ?_)
          clear Z10_ hc88
          refine lv_iinc (v := (x2 + 1)) (lv' := [(2, .int (x2 + 1)), (0, .ref (ad q0)), (1, .ref (ad q1))]) hx hb dX0_takeOver_33 hl10_ (k := 2) rfl rfl (by decide) rfl (fun ls94 hl93 => ?_)
          clear hl10_
          refine lv_goto (tgt := 10) hx hb dX0_takeOver_36 (by decide) ?_
          exact ih10_ (x2 + 1) σ87 hf89 _ _ _ Z92 (lv_sub hl93 [1, 2, 0] rfl)
  refine lv_aload_n hx hb dX0_takeOver_0 rfl (lv_at hl 0 rfl) ?_
  refine lv_aload_n hx hb dX0_takeOver_1 rfl (lv_at hl 1 rfl) ?_
  refine zy_get (v := .int (σ q1 3)) X Z xL_ok hq1 rfl rfl (fun w h => List.mem_cons_of_mem _ (List.mem_append_left _ (List.mem_append_right _ h))) 3 rfl (zz_m 1 rfl) rfl dX0_takeOver_2 ?_
  obtain ⟨σ95, es96, hf97⟩ := zLet hf
  clear hf
  refine zy_put (v := σ q1 3) (σ' := σ95) X Z xL_ok hq0 rfl rfl (fun w h => List.mem_cons_of_mem _ (List.mem_append_left _ (List.mem_append_right _ h))) tyX0 tyX0_ok nmX0 3 rfl (zz_m 1 rfl) rfl rfl rfl (fun _ => rfl) (fun _ => rfl) es96 dX0_takeOver_5 (fun H98 lo99 Z100 => ?_)
  clear Z es96
  refine lv_iconst (v := 0) hx hb dX0_takeOver_8 (by decide) ?_
  refine lv_istore_n (lv' := [(2, .int 0), (0, .ref (ad q0)), (1, .ref (ad q1))]) hx hb dX0_takeOver_9 rfl hl (by decide) rfl (fun ls102 hl101 => ?_)
  clear hl
  exact b10_ zfu 0 σ95 hf97 _ _ _ Z100 (lv_sub hl101 [1, 2, 0] rfl)
def f_X0_widen (q0 : Nat) (a1 : Int32) (σ : zg_S) : Option (Int32 × zg_S) := zlet (zg_up σ q0 5 a1) (fun (σ1 : zg_S) => zbd (f_X0_lastFirst q0 σ1) (fun (r7 : Int32) (σ8 : zg_S) => zbd (f_X6_held (σ1 q0 6) 0 r7 σ8) (fun (r14 : Int32) (σ15 : zg_S) => zlet (zg_up σ15 q0 6 r14) (fun (σ21 : zg_S) => some (0, σ21)))))
set_option maxHeartbeats 4000000 in
set_option maxRecDepth 100000 in
theorem c_X0_widen (l : Launch) (D : va_G) (V : zz_V) (ad : Nat → Nat) (cA : Nat → ClassId) (q0 : Nat) (a1 : Int32) (hq0 : XL.2.1 q0 = 0) (σ : zg_S) (r0 : Int32) (σf : zg_S) (hf : f_X0_widen q0 a1 σ = some (r0, σf)) : zM_V l yX0_widen wsX0_widen 2 46 D V XL ad cA [.ref (ad q0), .int a1] σ r0 σf := by
  intro sz
  refine Met.ofW (cc := cX0_widen) (maxL := 2) (ret := none) (by decide) rfl ?_
  intro p e s m args below meth c s₁ B hml hv
  obtain ⟨rfl, hC⟩ := hv
  have hx := B.exec
  have hb := B.bytes
  have hr := B.returns
  have hts := atoms_spec (ws := wsX0_widen) B.pre
  have hown : s.vm.findClass RX0 = some m.cls := findClass_of_methodNamed B.named
  have hlk := B.notSynchronized
  have X : CallFix p m c cX0_widen 2 s _ wsX0_widen RX0 := ⟨hx, hb, hml, hown, hts⟩
  have Z := zz_enter hC
  generalize va_A (zg_W XL ad cA σ) sz = A at Z ⊢
  have hl := lv_entry ([.ref (ad q0), .int a1]) (n := 2) (Nat.le_of_ble_eq_true rfl)
  rw [lg_entry_eq]
  generalize (lg_sl ([.ref (ad q0), .int a1]) ++ List.replicate (2 - (lg_sl ([.ref (ad q0), .int a1])).length) Slot.unset).toArray = ls at hl ⊢
  have hl : lv_has ls 2 [(0, .ref (ad q0)), (1, .int a1)] := hl
  unfold f_X0_widen at hf
  refine lv_aload_n hx hb dX0_widen_0 rfl (lv_at hl 0 rfl) ?_
  refine lv_iload_n hx hb dX0_widen_1 rfl (lv_at hl 1 rfl) ?_
  obtain ⟨σ1, es2, hf3⟩ := zLet hf
  clear hf
  refine zy_put (v := a1) (σ' := σ1) X Z xL_ok hq0 rfl rfl (fun w h => List.mem_cons_of_mem _ (List.mem_append_right _ h)) tyX0 tyX0_ok nmX0 5 rfl (zz_m 1 rfl) rfl rfl rfl (fun _ => rfl) (fun _ => rfl) es2 dX0_widen_2 (fun H4 lo5 Z6 => ?_)
  clear Z es2
  refine lv_aload_n hx hb dX0_widen_5 rfl (lv_at hl 0 rfl) ?_
  refine lv_aload_n hx hb dX0_widen_6 rfl (lv_at hl 0 rfl) ?_
  refine zy_get (v := .int (σ1 q0 6)) X Z6 xL_ok hq0 rfl rfl (fun w h => List.mem_cons_of_mem _ (List.mem_append_right _ h)) 6 rfl (zz_m 2 rfl) rfl dX0_widen_7 ?_
  refine lv_iconst (v := 0) hx hb dX0_widen_10 (by decide) ?_
  refine lv_aload_n hx hb dX0_widen_11 rfl (lv_at hl 0 rfl) ?_
  obtain ⟨r7, σ8, hc9, hf10⟩ := zBd hf3
  clear hf3
  refine zy_ci (r0 := r7) (WS1 := zg_W XL ad cA σ8) (TYS1 := zg_T XL cA) Z6 (va_runV (As := []) (rest := [.int 0, .int (σ1 q0 6), .ref (ad q0)]) X (c_X0_lastFirst l D V ad cA q0 hq0 σ1 r7 σ8 hc9 H4.size) (cwV 0 hts gX0_widen_X0_lastFirst rfl rfl rfl ⟨rfl, zh_X0_lastFirst⟩ ⟨Nat.le_of_ble_eq_true rfl, Nat.le_of_ble_eq_true rfl⟩) (zy_pV (ci := 0) Z6 xL_ok hq0 rfl rfl) rfl rfl hl.1 rfl (lv_room (Nat.le_of_ble_eq_true rfl)) dX0_widen_12 ⟨Nat.le_of_ble_eq_true rfl, Nat.le_of_ble_eq_true rfl⟩) (fun H11 lo12 Z13 => ?_)
  clear Z6 hc9
  obtain ⟨r14, σ15, hc16, hf17⟩ := zBd hf10
  clear hf10
  refine zy_ci (r0 := r14) (WS1 := zg_W XL ad cA σ15) (TYS1 := zg_T XL cA) Z13 (va_runSN (As := [.int (σ1 q0 6), .int 0, .int r7]) (rest := [.ref (ad q0)]) X (c_X6_held l D V ad cA (σ1 q0 6) 0 r7 σ8 r14 σ15 hc16 H11.size) ⟨va_cnB 3 hts gX0_widen_X6_held_n120 rfl rfl rfl (zz_nw (q := (RX0, 120, yX6_held, RX6)) Z13.2.2.2.2.2 3 rfl) (hts _ (zz_m 9 rfl)) zh_X6_held ⟨Nat.le_of_ble_eq_true rfl, Nat.le_of_ble_eq_true rfl⟩, hts _ (zz_m 8 rfl), trivial⟩ (zz_pS Z13) rfl rfl hl.1 rfl (lv_room (Nat.le_of_ble_eq_true rfl)) dX0_widen_15 ⟨Nat.le_of_ble_eq_true rfl, Nat.le_of_ble_eq_true rfl⟩) (fun H18 lo19 Z20 => ?_)
  clear Z13 hc16
  obtain ⟨σ21, es22, hf23⟩ := zLet hf17
  clear hf17
  refine zy_put (v := r14) (σ' := σ21) X Z20 xL_ok hq0 rfl rfl (fun w h => List.mem_cons_of_mem _ (List.mem_append_right _ h)) tyX0 tyX0_ok nmX0 6 rfl (zz_m 2 rfl) rfl rfl rfl (fun _ => rfl) (fun _ => rfl) es22 dX0_widen_18 (fun H24 lo25 Z26 => ?_)
  clear Z20 es22
  exact zy_vret X hr hlk Z26 (zEnd hf23) dX0_widen_21
def B_X1_sortAt_35 (a1 : Int32) (x2 : Int32) (σ : zg_S) : Option (Int32 × zg_S) := (if x2 < 48 then some (3, σ) else (if 57 < x2 then some (3, σ) else some (2, σ)))
def f_X1_sortAt (a1 : Int32) (σ : zg_S) : Option (Int32 × zg_S) := (if a1 < 0 then some (0, σ) else (if a1 < (σ 7 2) then (if zin a1 96 = true then (if (σ 6 (Int32.toNatClampNeg a1)) < 97 then B_X1_sortAt_35 a1 (σ 6 (Int32.toNatClampNeg a1)) σ else (if 122 < (σ 6 (Int32.toNatClampNeg a1)) then B_X1_sortAt_35 a1 (σ 6 (Int32.toNatClampNeg a1)) σ else some (1, σ))) else none) else some (0, σ)))
set_option maxHeartbeats 4000000 in
set_option maxRecDepth 100000 in
theorem c_X1_sortAt (l : Launch) (D : va_G) (V : zz_V) (ad : Nat → Nat) (cA : Nat → ClassId) (a1 : Int32)  (σ : zg_S) (r0 : Int32) (σf : zg_S) (hf : f_X1_sortAt a1 σ = some (r0, σf)) : zM_I l yX1_sortAt wsX1_sortAt 0 0 D V XL ad cA [.ref (ad 7), .int a1] σ r0 σf := by
  intro sz
  refine Met.ofW (cc := cX1_sortAt) (maxL := 3) (ret := (some .int)) (by decide) rfl ?_
  intro p e s m args below meth c s₁ B hml hv
  obtain ⟨rfl, hC⟩ := hv
  have hx := B.exec
  have hb := B.bytes
  have hr := B.returns
  have hts := atoms_spec (ws := wsX1_sortAt) B.pre
  have hown : s.vm.findClass RX1 = some m.cls := findClass_of_methodNamed B.named
  have hlk := B.notSynchronized
  have X : CallFix p m c cX1_sortAt 3 s _ wsX1_sortAt RX1 := ⟨hx, hb, hml, hown, hts⟩
  have Z := zz_enter hC
  generalize va_A (zg_W XL ad cA σ) sz = A at Z ⊢
  have hl := lv_entry ([.ref (ad 7), .int a1]) (n := 3) (Nat.le_of_ble_eq_true rfl)
  rw [lg_entry_eq]
  generalize (lg_sl ([.ref (ad 7), .int a1]) ++ List.replicate (3 - (lg_sl ([.ref (ad 7), .int a1])).length) Slot.unset).toArray = ls at hl ⊢
  have hl : lv_has ls 3 [(0, .ref (ad 7)), (1, .int a1)] := hl
  unfold f_X1_sortAt at hf
  have b35_ : ∀ (x2 : Int32) (σ : zg_S), B_X1_sortAt_35 a1 x2 σ = some (r0, σf) → ∀ (H : Heap) (locs : List Loc) (ls : Array Slot), zz_S D V A s (zg_W XL ad cA σ) (zg_T XL cA) H locs → lv_has ls 3 [(2, .int x2)] → W p l e (headSpec wsX1_sortAt { frames := 0, cells := 0, slots := 0, locals := 0 }).room s m (List.toArray [.ref (ad 7), .int a1]) below meth c H locs 0 0 (MQ below (va_Qi (fun r (_ : Unit) => r = r0) (fun _ t => zz_B D A (zg_W XL ad cA σf) (zg_T XL cA) t) A) (List.toArray [.ref (ad 7), .int a1]) s 0 0 A) (F0 m 35 ls []) := by
    intro x2 σ hf35_ H35_ locs35_ ls35_ Z35_ hl35_
    unfold B_X1_sortAt_35 at hf35_
    refine lv_iload_n hx hb dX1_sortAt_35 rfl (lv_at hl35_ 0 rfl) ?_
    refine lv_bipush (v := 48) hx hb dX1_sortAt_36 (by decide) ?_
    refine lv_icmp_lt (tgt := 51) hx hb dX1_sortAt_38 (by decide) (fun b1 => ?_) (fun b1 => ?_)
    · have hf2 := zYes hf35_ b1
      clear hf35_
      refine lv_iconst (v := 3) hx hb dX1_sortAt_51 (by decide) ?_
      exact zy_iret X hr hlk Z35_ (zEnd hf2) dX1_sortAt_52
    · have hf3 := zNot hf35_ b1
      clear hf35_
      refine lv_iload_n hx hb dX1_sortAt_41 rfl (lv_at hl35_ 0 rfl) ?_
      refine lv_bipush (v := 57) hx hb dX1_sortAt_42 (by decide) ?_
      refine lv_icmp_gt (tgt := 51) hx hb dX1_sortAt_44 (by decide) (fun b4 => ?_) (fun b4 => ?_)
      · have hf5 := zYes hf3 b4
        clear hf3
        refine lv_iconst (v := 3) hx hb dX1_sortAt_51 (by decide) ?_
        exact zy_iret X hr hlk Z35_ (zEnd hf5) dX1_sortAt_52
      · have hf6 := zNot hf3 b4
        clear hf3
        refine lv_iconst (v := 2) hx hb dX1_sortAt_47 (by decide) ?_
        refine lv_goto (tgt := 52) hx hb dX1_sortAt_48 (by decide) ?_
        exact zy_iret X hr hlk Z35_ (zEnd hf6) dX1_sortAt_52
  refine lv_iload_n hx hb dX1_sortAt_0 rfl (lv_at hl 1 rfl) ?_
  refine lv_if_lt (tgt := 12) hx hb dX1_sortAt_1 (by decide) (fun b7 => ?_) (fun b7 => ?_)
  · have hf8 := zYes hf b7
    clear hf
    refine lv_iconst (v := 0) hx hb dX1_sortAt_12 (by decide) ?_
    exact zy_iret X hr hlk Z (zEnd hf8) dX1_sortAt_13
  · have hf9 := zNot hf b7
    clear hf
    refine lv_iload_n hx hb dX1_sortAt_4 rfl (lv_at hl 1 rfl) ?_
    refine lv_aload_n hx hb dX1_sortAt_5 rfl (lv_at hl 0 rfl) ?_
    refine zy_get (v := .int (σ 7 2)) X Z xL_ok xk_7 rfl rfl (fun w h => List.mem_cons_of_mem _ (List.mem_append_right _ h)) 2 rfl (zz_m 1 rfl) rfl dX1_sortAt_6 ?_
    refine lv_icmp_lt (tgt := 14) hx hb dX1_sortAt_9 (by decide) (fun b10 => ?_) (fun b10 => ?_)
    · have hf11 := zYes hf9 b10
      clear hf9
      refine lv_aload_n hx hb dX1_sortAt_14 rfl (lv_at hl 0 rfl) ?_
      refine zy_get (v := .ref (ad 6)) X Z xL_ok xk_7 rfl rfl (fun w h => List.mem_cons_of_mem _ (List.mem_append_right _ h)) 0 rfl (zz_m 2 rfl) rfl dX1_sortAt_15 ?_
      refine lv_iload_n hx hb dX1_sortAt_18 rfl (lv_at hl 1 rfl) ?_
      obtain ⟨⟨i12, j13⟩, hf14⟩ := zG hf11
      clear hf11
      refine zy_ild X Z xL_ok xk_6 xl_6 i12 dX1_sortAt_19 ?_
      refine lv_istore_n (lv' := [(2, .int (σ 6 (Int32.toNatClampNeg a1))), (0, .ref (ad 7)), (1, .int a1)]) hx hb dX1_sortAt_20 rfl hl (by decide) rfl (fun ls16 hl15 => ?_)
      clear hl
      refine lv_iload_n hx hb dX1_sortAt_21 rfl (lv_at hl15 0 rfl) ?_
      refine lv_bipush (v := 97) hx hb dX1_sortAt_22 (by decide) ?_
      refine lv_icmp_lt (tgt := 35) hx hb dX1_sortAt_24 (by decide) (fun b17 => ?_) (fun b17 => ?_)
      · have hf18 := zYes hf14 b17
        clear hf14
        exact b35_ (σ 6 (Int32.toNatClampNeg a1)) σ hf18 _ _ _ Z (lv_sub hl15 [0] rfl)
      · have hf19 := zNot hf14 b17
        clear hf14
        refine lv_iload_n hx hb dX1_sortAt_27 rfl (lv_at hl15 0 rfl) ?_
        refine lv_bipush (v := 122) hx hb dX1_sortAt_28 (by decide) ?_
        refine lv_icmp_gt (tgt := 35) hx hb dX1_sortAt_30 (by decide) (fun b20 => ?_) (fun b20 => ?_)
        · have hf21 := zYes hf19 b20
          clear hf19
          exact b35_ (σ 6 (Int32.toNatClampNeg a1)) σ hf21 _ _ _ Z (lv_sub hl15 [0] rfl)
        · have hf22 := zNot hf19 b20
          clear hf19
          refine lv_iconst (v := 1) hx hb dX1_sortAt_33 (by decide) ?_
          exact zy_iret X hr hlk Z (zEnd hf22) dX1_sortAt_34
    · have hf23 := zNot hf9 b10
      clear hf9
      refine lv_iconst (v := 0) hx hb dX1_sortAt_12 (by decide) ?_
      exact zy_iret X hr hlk Z (zEnd hf23) dX1_sortAt_13
def B_X1_advance_221 (σ : zg_S) : Option (Int32 × zg_S) := zlet (zg_up σ 7 3 4) (fun (σ1 : zg_S) => some (0, σ1))
def B_X1_advance_210 (x3 : Int32) (y0 : Int32) (σ : zg_S) : Option (Int32 × zg_S) := (if x3 = 0 then (if y0 = 0 then some (0, σ) else B_X1_advance_221 σ) else B_X1_advance_221 σ)
def B_X1_advance_209 (x3 : Int32) (σ : zg_S) : Option (Int32 × zg_S) := B_X1_advance_210 x3 0 σ
def B_X1_advance_183 (y0 : Int32) (σ : zg_S) : Option (Int32 × zg_S) := (if (σ 7 3) = 2 then (if ((σ 7 5) - (σ 7 4)) ≤ 4 then B_X1_advance_209 y0 σ else B_X1_advance_210 y0 1 σ) else B_X1_advance_209 y0 σ)
def B_X1_advance_182 (σ : zg_S) : Option (Int32 × zg_S) := B_X1_advance_183 0 σ
def B_X1_advance_158 (x1 : Int32) (x2 : Int32) (σ : zg_S) : Option (Int32 × zg_S) := (if x1 = 0 then B_X1_advance_182 σ else (if (σ 7 3) = 3 then B_X1_advance_182 σ else (if (σ 7 4) = x2 then B_X1_advance_183 1 σ else B_X1_advance_182 σ)))
def B_X1_advance_111 (rec111_ : Int32 → Int32 → zg_S → Option (Int32 × zg_S)) (x1 : Int32) (x2 : Int32) (σ : zg_S) : Option (Int32 × zg_S) := (if (σ 7 3) = 3 then B_X1_advance_158 x1 x2 σ else (if (σ 7 2) ≤ (σ 7 5) then B_X1_advance_158 x1 x2 σ else zbd (f_X1_sortAt (σ 7 5) σ) (fun (r38 : Int32) (σ39 : zg_S) => (if r38 = (σ39 7 3) then zlet (zg_up σ39 7 5 ((σ39 7 5) + 1)) (fun (σ48 : zg_S) => rec111_ x1 x2 σ48) else B_X1_advance_158 x1 x2 σ39))))
def L_X1_advance_111 : Nat → Int32 → Int32 → zg_S → Option (Int32 × zg_S) := zfix (fun _ _ _ => none) (B_X1_advance_111)
def B_X1_advance_73 (x1 : Int32) (x2 : Int32) (σ : zg_S) : Option (Int32 × zg_S) := zlet (zg_up σ 7 5 (σ 7 4)) (fun (σ54 : zg_S) => zbd (f_X1_sortAt (σ54 7 4) σ54) (fun (r60 : Int32) (σ61 : zg_S) => zlet (zg_up σ61 7 3 r60) (fun (σ67 : zg_S) => (if (σ67 7 3) = 0 then some (0, σ67) else zlet (zg_up σ67 7 5 ((σ67 7 5) + 1)) (fun (σ75 : zg_S) => L_X1_advance_111 zfu x1 x2 σ75)))))
def B_X1_advance_35 (rec35_ : Int32 → Int32 → zg_S → Option (Int32 × zg_S)) (x1 : Int32) (x2 : Int32) (σ : zg_S) : Option (Int32 × zg_S) := (if (σ 7 2) ≤ (σ 7 4) then B_X1_advance_73 x1 x2 σ else (if zin (σ 7 4) 96 = true then (if (σ 6 (Int32.toNatClampNeg (σ 7 4))) = 32 then zlet (zg_up σ 7 4 ((σ 7 4) + 1)) (fun (σ91 : zg_S) => rec35_ x1 x2 σ91) else B_X1_advance_73 x1 x2 σ) else none))
def L_X1_advance_35 : Nat → Int32 → Int32 → zg_S → Option (Int32 × zg_S) := zfix (fun _ _ _ => none) (B_X1_advance_35)
def B_X1_advance_21 (y0 : Int32) (σ : zg_S) : Option (Int32 × zg_S) := zlet (zg_up σ 7 4 (σ 7 5)) (fun (σ101 : zg_S) => L_X1_advance_35 zfu y0 (σ 7 5) σ101)
def B_X1_advance_16 (σ : zg_S) : Option (Int32 × zg_S) := B_X1_advance_21 1 σ
def f_X1_advance  (σ : zg_S) : Option (Int32 × zg_S) := (if (σ 7 3) = 1 then B_X1_advance_16 σ else (if (σ 7 3) = 2 then B_X1_advance_16 σ else B_X1_advance_21 0 σ))
set_option maxHeartbeats 4000000 in
set_option maxRecDepth 100000 in
theorem c_X1_advance (l : Launch) (D : va_G) (V : zz_V) (ad : Nat → Nat) (cA : Nat → ClassId)   (σ : zg_S) (r0 : Int32) (σf : zg_S) (hf : f_X1_advance  σ = some (r0, σf)) : zM_V l yX1_advance wsX1_advance 1 22 D V XL ad cA [.ref (ad 7)] σ r0 σf := by
  intro sz
  refine Met.ofW (cc := cX1_advance) (maxL := 5) (ret := none) (by decide) rfl ?_
  intro p e s m args below meth c s₁ B hml hv
  obtain ⟨rfl, hC⟩ := hv
  have hx := B.exec
  have hb := B.bytes
  have hr := B.returns
  have hts := atoms_spec (ws := wsX1_advance) B.pre
  have hown : s.vm.findClass RX1 = some m.cls := findClass_of_methodNamed B.named
  have hlk := B.notSynchronized
  have X : CallFix p m c cX1_advance 5 s _ wsX1_advance RX1 := ⟨hx, hb, hml, hown, hts⟩
  have Z := zz_enter hC
  generalize va_A (zg_W XL ad cA σ) sz = A at Z ⊢
  have hl := lv_entry ([.ref (ad 7)]) (n := 5) (Nat.le_of_ble_eq_true rfl)
  rw [lg_entry_eq]
  generalize (lg_sl ([.ref (ad 7)]) ++ List.replicate (5 - (lg_sl ([.ref (ad 7)])).length) Slot.unset).toArray = ls at hl ⊢
  have hl : lv_has ls 5 [(0, .ref (ad 7))] := hl
  unfold f_X1_advance at hf
  have b21_ : ∀ (y0 : Int32) (σ : zg_S), B_X1_advance_21 y0 σ = some (r0, σf) → ∀ (H : Heap) (locs : List Loc) (ls : Array Slot), zz_S D V A s (zg_W XL ad cA σ) (zg_T XL cA) H locs → lv_has ls 5 [(0, .ref (ad 7))] → W p l e (headSpec wsX1_advance { frames := 1, cells := 0, slots := 0, locals := 22 }).room s m (List.toArray [.ref (ad 7)]) below meth c H locs 0 0 (MQ below (va_Qv (fun (_ : Unit) => True) (fun _ t => zz_B D A (zg_W XL ad cA σf) (zg_T XL cA) t) A) (List.toArray [.ref (ad 7)]) s 0 0 A) (F0 m 21 ls [.int y0]) := by
    intro y0 σ hf21_ H21_ locs21_ ls21_ Z21_ hl21_
    unfold B_X1_advance_21 at hf21_
    have b35_ : ∀ (k35_ : Nat) (x1 : Int32) (x2 : Int32) (σ : zg_S), L_X1_advance_35 k35_ x1 x2 σ = some (r0, σf) → ∀ (H : Heap) (locs : List Loc) (ls : Array Slot), zz_S D V A s (zg_W XL ad cA σ) (zg_T XL cA) H locs → lv_has ls 5 [(0, .ref (ad 7)), (1, .int x1), (2, .int x2)] → W p l e (headSpec wsX1_advance { frames := 1, cells := 0, slots := 0, locals := 22 }).room s m (List.toArray [.ref (ad 7)]) below meth c H locs 0 0 (MQ below (va_Qv (fun (_ : Unit) => True) (fun _ t => zz_B D A (zg_W XL ad cA σf) (zg_T XL cA) t) A) (List.toArray [.ref (ad 7)]) s 0 0 A) (F0 m 35 ls []) := by
      intro k35_
      induction k35_ with
      | zero =>
          intro x1 x2 σ hf35_ H35_ locs35_ ls35_ Z35_ hl35_
          exact zNone hf35_
      | succ k35_ ih35_ =>
          intro x1 x2 σ hf35_ H35_ locs35_ ls35_ Z35_ hl35_
          replace hf35_ : B_X1_advance_35 (L_X1_advance_35 k35_) x1 x2 σ = some (r0, σf) := hf35_
          unfold B_X1_advance_35 at hf35_
          have b73_ : ∀ (x1 : Int32) (x2 : Int32) (σ : zg_S), B_X1_advance_73 x1 x2 σ = some (r0, σf) → ∀ (H : Heap) (locs : List Loc) (ls : Array Slot), zz_S D V A s (zg_W XL ad cA σ) (zg_T XL cA) H locs → lv_has ls 5 [(0, .ref (ad 7)), (1, .int x1), (2, .int x2)] → W p l e (headSpec wsX1_advance { frames := 1, cells := 0, slots := 0, locals := 22 }).room s m (List.toArray [.ref (ad 7)]) below meth c H locs 0 0 (MQ below (va_Qv (fun (_ : Unit) => True) (fun _ t => zz_B D A (zg_W XL ad cA σf) (zg_T XL cA) t) A) (List.toArray [.ref (ad 7)]) s 0 0 A) (F0 m 73 ls []) := by
            intro x1 x2 σ hf73_ H73_ locs73_ ls73_ Z73_ hl73_
            unfold B_X1_advance_73 at hf73_
            have b111_ : ∀ (k111_ : Nat) (x1 : Int32) (x2 : Int32) (σ : zg_S), L_X1_advance_111 k111_ x1 x2 σ = some (r0, σf) → ∀ (H : Heap) (locs : List Loc) (ls : Array Slot), zz_S D V A s (zg_W XL ad cA σ) (zg_T XL cA) H locs → lv_has ls 5 [(0, .ref (ad 7)), (1, .int x1), (2, .int x2)] → W p l e (headSpec wsX1_advance { frames := 1, cells := 0, slots := 0, locals := 22 }).room s m (List.toArray [.ref (ad 7)]) below meth c H locs 0 0 (MQ below (va_Qv (fun (_ : Unit) => True) (fun _ t => zz_B D A (zg_W XL ad cA σf) (zg_T XL cA) t) A) (List.toArray [.ref (ad 7)]) s 0 0 A) (F0 m 111 ls []) := by
              intro k111_
              induction k111_ with
              | zero =>
                  intro x1 x2 σ hf111_ H111_ locs111_ ls111_ Z111_ hl111_
                  exact zNone hf111_
              | succ k111_ ih111_ =>
                  intro x1 x2 σ hf111_ H111_ locs111_ ls111_ Z111_ hl111_
                  replace hf111_ : B_X1_advance_111 (L_X1_advance_111 k111_) x1 x2 σ = some (r0, σf) := hf111_
                  unfold B_X1_advance_111 at hf111_
                  have b158_ : ∀ (x1 : Int32) (x2 : Int32) (σ : zg_S), B_X1_advance_158 x1 x2 σ = some (r0, σf) → ∀ (H : Heap) (locs : List Loc) (ls : Array Slot), zz_S D V A s (zg_W XL ad cA σ) (zg_T XL cA) H locs → lv_has ls 5 [(0, .ref (ad 7)), (1, .int x1), (2, .int x2)] → W p l e (headSpec wsX1_advance { frames := 1, cells := 0, slots := 0, locals := 22 }).room s m (List.toArray [.ref (ad 7)]) below meth c H locs 0 0 (MQ below (va_Qv (fun (_ : Unit) => True) (fun _ t => zz_B D A (zg_W XL ad cA σf) (zg_T XL cA) t) A) (List.toArray [.ref (ad 7)]) s 0 0 A) (F0 m 158 ls []) := by
                    intro x1 x2 σ hf158_ H158_ locs158_ ls158_ Z158_ hl158_
                    unfold B_X1_advance_158 at hf158_
                    have b183_ : ∀ (y0 : Int32) (σ : zg_S), B_X1_advance_183 y0 σ = some (r0, σf) → ∀ (H : Heap) (locs : List Loc) (ls : Array Slot), zz_S D V A s (zg_W XL ad cA σ) (zg_T XL cA) H locs → lv_has ls 5 [(0, .ref (ad 7))] → W p l e (headSpec wsX1_advance { frames := 1, cells := 0, slots := 0, locals := 22 }).room s m (List.toArray [.ref (ad 7)]) below meth c H locs 0 0 (MQ below (va_Qv (fun (_ : Unit) => True) (fun _ t => zz_B D A (zg_W XL ad cA σf) (zg_T XL cA) t) A) (List.toArray [.ref (ad 7)]) s 0 0 A) (F0 m 183 ls [.int y0]) := by
                      intro y0 σ hf183_ H183_ locs183_ ls183_ Z183_ hl183_
                      unfold B_X1_advance_183 at hf183_
                      have b210_ : ∀ (x3 : Int32) (y0 : Int32) (σ : zg_S), B_X1_advance_210 x3 y0 σ = some (r0, σf) → ∀ (H : Heap) (locs : List Loc) (ls : Array Slot), zz_S D V A s (zg_W XL ad cA σ) (zg_T XL cA) H locs → lv_has ls 5 [(0, .ref (ad 7)), (3, .int x3)] → W p l e (headSpec wsX1_advance { frames := 1, cells := 0, slots := 0, locals := 22 }).room s m (List.toArray [.ref (ad 7)]) below meth c H locs 0 0 (MQ below (va_Qv (fun (_ : Unit) => True) (fun _ t => zz_B D A (zg_W XL ad cA σf) (zg_T XL cA) t) A) (List.toArray [.ref (ad 7)]) s 0 0 A) (F0 m 210 ls [.int y0]) := by
                        intro x3 y0 σ hf210_ H210_ locs210_ ls210_ Z210_ hl210_
                        unfold B_X1_advance_210 at hf210_
                        have b221_ : ∀ (σ : zg_S), B_X1_advance_221  σ = some (r0, σf) → ∀ (H : Heap) (locs : List Loc) (ls : Array Slot), zz_S D V A s (zg_W XL ad cA σ) (zg_T XL cA) H locs → lv_has ls 5 [(0, .ref (ad 7))] → W p l e (headSpec wsX1_advance { frames := 1, cells := 0, slots := 0, locals := 22 }).room s m (List.toArray [.ref (ad 7)]) below meth c H locs 0 0 (MQ below (va_Qv (fun (_ : Unit) => True) (fun _ t => zz_B D A (zg_W XL ad cA σf) (zg_T XL cA) t) A) (List.toArray [.ref (ad 7)]) s 0 0 A) (F0 m 221 ls []) := by
                          intro σ hf221_ H221_ locs221_ ls221_ Z221_ hl221_
                          unfold B_X1_advance_221 at hf221_
                          refine lv_aload_n hx hb dX1_advance_221 rfl (lv_at hl221_ 0 rfl) ?_
                          refine lv_iconst (v := 4) hx hb dX1_advance_222 (by decide) ?_
                          obtain ⟨σ1, es2, hf3⟩ := zLet hf221_
                          clear hf221_
                          refine zy_put (v := 4) (σ' := σ1) X Z221_ xL_ok xk_7 rfl rfl (fun w h => List.mem_cons_of_mem _ (List.mem_append_right _ h)) tyX1 tyX1_ok nmX1 3 rfl (zz_m 1 rfl) rfl rfl rfl (fun _ => rfl) (fun _ => rfl) es2 dX1_advance_223 (fun H4 lo5 Z6 => ?_)
                          clear Z221_ es2
                          exact zy_vret X hr hlk Z6 (zEnd hf3) dX1_advance_226
                        refine lv_istore (lv' := [(4, .int y0), (0, .ref (ad 7)), (3, .int x3)]) hx hb dX1_advance_210 hl210_ (by decide) rfl (fun ls8 hl7 => ?_)
                        clear hl210_
                        refine lv_iload_n hx hb dX1_advance_212 rfl (lv_at hl7 2 rfl) ?_
                        refine lv_if_ne (tgt := 221) hx hb dX1_advance_213 (by decide) (fun b9 => ?_) (fun b9 => ?_)
                        · have hf10 := zNot hf210_ b9
                          clear hf210_
                          exact b221_ σ hf10 _ _ _ Z210_ (lv_sub hl7 [1] rfl)
                        · have hf11 := zYes hf210_ b9
                          clear hf210_
                          refine lv_iload hx hb dX1_advance_216 (lv_at hl7 0 rfl) ?_
                          refine lv_if_eq (tgt := 226) hx hb dX1_advance_218 (by decide) (fun b12 => ?_) (fun b12 => ?_)
                          · have hf13 := zYes hf11 b12
                            clear hf11
                            exact zy_vret X hr hlk Z210_ (zEnd hf13) dX1_advance_226
                          · have hf14 := zNot hf11 b12
                            clear hf11
                            exact b221_ σ hf14 _ _ _ Z210_ (lv_sub hl7 [1] rfl)
                      have b209_ : ∀ (x3 : Int32) (σ : zg_S), B_X1_advance_209 x3 σ = some (r0, σf) → ∀ (H : Heap) (locs : List Loc) (ls : Array Slot), zz_S D V A s (zg_W XL ad cA σ) (zg_T XL cA) H locs → lv_has ls 5 [(0, .ref (ad 7)), (3, .int x3)] → W p l e (headSpec wsX1_advance { frames := 1, cells := 0, slots := 0, locals := 22 }).room s m (List.toArray [.ref (ad 7)]) below meth c H locs 0 0 (MQ below (va_Qv (fun (_ : Unit) => True) (fun _ t => zz_B D A (zg_W XL ad cA σf) (zg_T XL cA) t) A) (List.toArray [.ref (ad 7)]) s 0 0 A) (F0 m 209 ls []) := by
                        intro x3 σ hf209_ H209_ locs209_ ls209_ Z209_ hl209_
                        unfold B_X1_advance_209 at hf209_
                        refine lv_iconst (v := 0) hx hb dX1_advance_209 (by decide) ?_
                        exact b210_ x3 0 σ hf209_ _ _ _ Z209_ (lv_sub hl209_ [0, 1] rfl)
                      refine lv_istore_n (lv' := [(3, .int y0), (0, .ref (ad 7))]) hx hb dX1_advance_183 rfl hl183_ (by decide) rfl (fun ls16 hl15 => ?_)
                      clear hl183_
                      refine lv_aload_n hx hb dX1_advance_184 rfl (lv_at hl15 1 rfl) ?_
                      refine zy_get (v := .int (σ 7 3)) X Z183_ xL_ok xk_7 rfl rfl (fun w h => List.mem_cons_of_mem _ (List.mem_append_right _ h)) 3 rfl (zz_m 1 rfl) rfl dX1_advance_185 ?_
                      refine lv_iconst (v := 2) hx hb dX1_advance_188 (by decide) ?_
                      refine lv_icmp_ne (tgt := 209) hx hb dX1_advance_189 (by decide) (fun b17 => ?_) (fun b17 => ?_)
                      · have hf18 := zNot hf183_ b17
                        clear hf183_
                        exact b209_ y0 σ hf18 _ _ _ Z183_ (lv_sub hl15 [1, 0] rfl)
                      · have hf19 := zYes hf183_ b17
                        clear hf183_
                        refine lv_aload_n hx hb dX1_advance_192 rfl (lv_at hl15 1 rfl) ?_
                        refine zy_get (v := .int (σ 7 5)) X Z183_ xL_ok xk_7 rfl rfl (fun w h => List.mem_cons_of_mem _ (List.mem_append_right _ h)) 5 rfl (zz_m 2 rfl) rfl dX1_advance_193 ?_
                        refine lv_aload_n hx hb dX1_advance_196 rfl (lv_at hl15 1 rfl) ?_
                        refine zy_get (v := .int (σ 7 4)) X Z183_ xL_ok xk_7 rfl rfl (fun w h => List.mem_cons_of_mem _ (List.mem_append_right _ h)) 4 rfl (zz_m 3 rfl) rfl dX1_advance_197 ?_
                        refine lv_isub hx hb dX1_advance_200 ?_
                        refine lv_iconst (v := 4) hx hb dX1_advance_201 (by decide) ?_
                        refine lv_icmp_le (tgt := 209) hx hb dX1_advance_202 (by decide) (fun b20 => ?_) (fun b20 => ?_)
                        · have hf21 := zYes hf19 b20
                          clear hf19
                          exact b209_ y0 σ hf21 _ _ _ Z183_ (lv_sub hl15 [1, 0] rfl)
                        · have hf22 := zNot hf19 b20
                          clear hf19
                          refine lv_iconst (v := 1) hx hb dX1_advance_205 (by decide) ?_
                          refine lv_goto (tgt := 210) hx hb dX1_advance_206 (by decide) ?_
                          exact b210_ y0 1 σ hf22 _ _ _ Z183_ (lv_sub hl15 [1, 0] rfl)
                    have b182_ : ∀ (σ : zg_S), B_X1_advance_182  σ = some (r0, σf) → ∀ (H : Heap) (locs : List Loc) (ls : Array Slot), zz_S D V A s (zg_W XL ad cA σ) (zg_T XL cA) H locs → lv_has ls 5 [(0, .ref (ad 7))] → W p l e (headSpec wsX1_advance { frames := 1, cells := 0, slots := 0, locals := 22 }).room s m (List.toArray [.ref (ad 7)]) below meth c H locs 0 0 (MQ below (va_Qv (fun (_ : Unit) => True) (fun _ t => zz_B D A (zg_W XL ad cA σf) (zg_T XL cA) t) A) (List.toArray [.ref (ad 7)]) s 0 0 A) (F0 m 182 ls []) := by
                      intro σ hf182_ H182_ locs182_ ls182_ Z182_ hl182_
                      unfold B_X1_advance_182 at hf182_
                      refine lv_iconst (v := 0) hx hb dX1_advance_182 (by decide) ?_
                      exact b183_ 0 σ hf182_ _ _ _ Z182_ (lv_sub hl182_ [0] rfl)
                    refine lv_iload_n hx hb dX1_advance_158 rfl (lv_at hl158_ 1 rfl) ?_
                    refine lv_if_eq (tgt := 182) hx hb dX1_advance_159 (by decide) (fun b23 => ?_) (fun b23 => ?_)
                    · have hf24 := zYes hf158_ b23
                      clear hf158_
                      exact b182_ σ hf24 _ _ _ Z158_ (lv_sub hl158_ [0] rfl)
                    · have hf25 := zNot hf158_ b23
                      clear hf158_
                      refine lv_aload_n hx hb dX1_advance_162 rfl (lv_at hl158_ 0 rfl) ?_
                      refine zy_get (v := .int (σ 7 3)) X Z158_ xL_ok xk_7 rfl rfl (fun w h => List.mem_cons_of_mem _ (List.mem_append_right _ h)) 3 rfl (zz_m 1 rfl) rfl dX1_advance_163 ?_
                      refine lv_iconst (v := 3) hx hb dX1_advance_166 (by decide) ?_
                      refine lv_icmp_eq (tgt := 182) hx hb dX1_advance_167 (by decide) (fun b26 => ?_) (fun b26 => ?_)
                      · have hf27 := zYes hf25 b26
                        clear hf25
                        exact b182_ σ hf27 _ _ _ Z158_ (lv_sub hl158_ [0] rfl)
                      · have hf28 := zNot hf25 b26
                        clear hf25
                        refine lv_aload_n hx hb dX1_advance_170 rfl (lv_at hl158_ 0 rfl) ?_
                        refine zy_get (v := .int (σ 7 4)) X Z158_ xL_ok xk_7 rfl rfl (fun w h => List.mem_cons_of_mem _ (List.mem_append_right _ h)) 4 rfl (zz_m 3 rfl) rfl dX1_advance_171 ?_
                        refine lv_iload_n hx hb dX1_advance_174 rfl (lv_at hl158_ 2 rfl) ?_
                        refine lv_icmp_ne (tgt := 182) hx hb dX1_advance_175 (by decide) (fun b29 => ?_) (fun b29 => ?_)
                        · have hf30 := zNot hf28 b29
                          clear hf28
                          exact b182_ σ hf30 _ _ _ Z158_ (lv_sub hl158_ [0] rfl)
                        · have hf31 := zYes hf28 b29
                          clear hf28
                          refine lv_iconst (v := 1) hx hb dX1_advance_178 (by decide) ?_
                          refine lv_goto (tgt := 183) hx hb dX1_advance_179 (by decide) ?_
                          exact b183_ 1 σ hf31 _ _ _ Z158_ (lv_sub hl158_ [0] rfl)
                  refine lv_aload_n hx hb dX1_advance_111 rfl (lv_at hl111_ 0 rfl) ?_
                  refine zy_get (v := .int (σ 7 3)) X Z111_ xL_ok xk_7 rfl rfl (fun w h => List.mem_cons_of_mem _ (List.mem_append_right _ h)) 3 rfl (zz_m 1 rfl) rfl dX1_advance_112 ?_
                  refine lv_iconst (v := 3) hx hb dX1_advance_115 (by decide) ?_
                  refine lv_icmp_eq (tgt := 158) hx hb dX1_advance_116 (by decide) (fun b32 => ?_) (fun b32 => ?_)
                  · have hf33 := zYes hf111_ b32
                    clear hf111_
                    exact b158_ x1 x2 σ hf33 _ _ _ Z111_ (lv_sub hl111_ [0, 1, 2] rfl)
                  · have hf34 := zNot hf111_ b32
                    clear hf111_
                    refine lv_aload_n hx hb dX1_advance_119 rfl (lv_at hl111_ 0 rfl) ?_
                    refine zy_get (v := .int (σ 7 5)) X Z111_ xL_ok xk_7 rfl rfl (fun w h => List.mem_cons_of_mem _ (List.mem_append_right _ h)) 5 rfl (zz_m 2 rfl) rfl dX1_advance_120 ?_
                    refine lv_aload_n hx hb dX1_advance_123 rfl (lv_at hl111_ 0 rfl) ?_
                    refine zy_get (v := .int (σ 7 2)) X Z111_ xL_ok xk_7 rfl rfl (fun w h => List.mem_cons_of_mem _ (List.mem_append_right _ h)) 2 rfl (zz_m 4 rfl) rfl dX1_advance_124 ?_
                    refine lv_icmp_ge (tgt := 158) hx hb dX1_advance_127 (by decide) (fun b35 => ?_) (fun b35 => ?_)
                    · have hf36 := zYes hf34 b35
                      clear hf34
                      exact b158_ x1 x2 σ hf36 _ _ _ Z111_ (lv_sub hl111_ [0, 1, 2] rfl)
                    · have hf37 := zNot hf34 b35
                      clear hf34
                      refine lv_aload_n hx hb dX1_advance_130 rfl (lv_at hl111_ 0 rfl) ?_
                      refine lv_aload_n hx hb dX1_advance_131 rfl (lv_at hl111_ 0 rfl) ?_
                      refine zy_get (v := .int (σ 7 5)) X Z111_ xL_ok xk_7 rfl rfl (fun w h => List.mem_cons_of_mem _ (List.mem_append_right _ h)) 5 rfl (zz_m 2 rfl) rfl dX1_advance_132 ?_
                      obtain ⟨r38, σ39, hc40, hf41⟩ := zBd hf37
                      clear hf37
                      refine zy_ci (r0 := r38) (WS1 := zg_W XL ad cA σ39) (TYS1 := zg_T XL cA) Z111_ (va_runV (As := [.int (σ 7 5)]) (rest := []) X (c_X1_sortAt l D V ad cA (σ 7 5) σ r38 σ39 hc40 H111_.size) (cwV 1 hts gX1_advance_X1_sortAt rfl rfl rfl ⟨rfl, zh_X1_sortAt⟩ ⟨Nat.le_of_ble_eq_true rfl, Nat.le_of_ble_eq_true rfl⟩) (zy_pV (ci := 1) Z111_ xL_ok xk_7 rfl rfl) rfl rfl hl111_.1 rfl (lv_room (Nat.le_of_ble_eq_true rfl)) dX1_advance_135 ⟨Nat.le_of_ble_eq_true rfl, Nat.le_of_ble_eq_true rfl⟩) (fun H42 lo43 Z44 => ?_)
                      clear Z111_ hc40
                      refine lv_aload_n hx hb dX1_advance_138 rfl (lv_at hl111_ 0 rfl) ?_
                      refine zy_get (v := .int (σ39 7 3)) X Z44 xL_ok xk_7 rfl rfl (fun w h => List.mem_cons_of_mem _ (List.mem_append_right _ h)) 3 rfl (zz_m 1 rfl) rfl dX1_advance_139 ?_
                      refine lv_icmp_ne (tgt := 158) hx hb dX1_advance_142 (by decide) (fun b45 => ?_) (fun b45 => ?_)
                      · have hf46 := zNot hf41 b45
                        clear hf41
                        exact b158_ x1 x2 σ39 hf46 _ _ _ Z44 (lv_sub hl111_ [0, 1, 2] rfl)
                      · have hf47 := zYes hf41 b45
                        clear hf41
                        refine lv_aload_n hx hb dX1_advance_145 rfl (lv_at hl111_ 0 rfl) ?_
                        refine lv_dup hx hb dX1_advance_146 rfl ?_
                        refine zy_get (v := .int (σ39 7 5)) X Z44 xL_ok xk_7 rfl rfl (fun w h => List.mem_cons_of_mem _ (List.mem_append_right _ h)) 5 rfl (zz_m 2 rfl) rfl dX1_advance_147 ?_
                        refine lv_iconst (v := 1) hx hb dX1_advance_150 (by decide) ?_
                        refine lv_iadd hx hb dX1_advance_151 ?_
                        obtain ⟨σ48, es49, hf50⟩ := zLet hf47
                        clear hf47
                        refine zy_put (v := (σ39 7 5) + 1) (σ' := σ48) X Z44 xL_ok xk_7 rfl rfl (fun w h => List.mem_cons_of_mem _ (List.mem_append_right _ h)) tyX1 tyX1_ok nmX1 5 rfl (zz_m 2 rfl) rfl rfl rfl (fun _ => rfl) (fun _ => rfl) es49 dX1_advance_152 (fun H51 lo52 Z53 => ?_)
                        clear Z44 es49
                        refine lv_goto (tgt := 111) hx hb dX1_advance_155 (by decide) ?_
                        exact ih111_ x1 x2 σ48 hf50 _ _ _ Z53 (lv_sub hl111_ [0, 1, 2] rfl)
            refine lv_aload_n hx hb dX1_advance_73 rfl (lv_at hl73_ 0 rfl) ?_
            refine lv_aload_n hx hb dX1_advance_74 rfl (lv_at hl73_ 0 rfl) ?_
            refine zy_get (v := .int (σ 7 4)) X Z73_ xL_ok xk_7 rfl rfl (fun w h => List.mem_cons_of_mem _ (List.mem_append_right _ h)) 4 rfl (zz_m 3 rfl) rfl dX1_advance_75 ?_
            obtain ⟨σ54, es55, hf56⟩ := zLet hf73_
            clear hf73_
            refine zy_put (v := σ 7 4) (σ' := σ54) X Z73_ xL_ok xk_7 rfl rfl (fun w h => List.mem_cons_of_mem _ (List.mem_append_right _ h)) tyX1 tyX1_ok nmX1 5 rfl (zz_m 2 rfl) rfl rfl rfl (fun _ => rfl) (fun _ => rfl) es55 dX1_advance_78 (fun H57 lo58 Z59 => ?_)
            clear Z73_ es55
            refine lv_aload_n hx hb dX1_advance_81 rfl (lv_at hl73_ 0 rfl) ?_
            refine lv_aload_n hx hb dX1_advance_82 rfl (lv_at hl73_ 0 rfl) ?_
            refine lv_aload_n hx hb dX1_advance_83 rfl (lv_at hl73_ 0 rfl) ?_
            refine zy_get (v := .int (σ54 7 4)) X Z59 xL_ok xk_7 rfl rfl (fun w h => List.mem_cons_of_mem _ (List.mem_append_right _ h)) 4 rfl (zz_m 3 rfl) rfl dX1_advance_84 ?_
            obtain ⟨r60, σ61, hc62, hf63⟩ := zBd hf56
            clear hf56
            refine zy_ci (r0 := r60) (WS1 := zg_W XL ad cA σ61) (TYS1 := zg_T XL cA) Z59 (va_runV (As := [.int (σ54 7 4)]) (rest := [.ref (ad 7)]) X (c_X1_sortAt l D V ad cA (σ54 7 4) σ54 r60 σ61 hc62 H57.size) (cwV 1 hts gX1_advance_X1_sortAt rfl rfl rfl ⟨rfl, zh_X1_sortAt⟩ ⟨Nat.le_of_ble_eq_true rfl, Nat.le_of_ble_eq_true rfl⟩) (zy_pV (ci := 1) Z59 xL_ok xk_7 rfl rfl) rfl rfl hl73_.1 rfl (lv_room (Nat.le_of_ble_eq_true rfl)) dX1_advance_87 ⟨Nat.le_of_ble_eq_true rfl, Nat.le_of_ble_eq_true rfl⟩) (fun H64 lo65 Z66 => ?_)
            clear Z59 hc62
            obtain ⟨σ67, es68, hf69⟩ := zLet hf63
            clear hf63
            refine zy_put (v := r60) (σ' := σ67) X Z66 xL_ok xk_7 rfl rfl (fun w h => List.mem_cons_of_mem _ (List.mem_append_right _ h)) tyX1 tyX1_ok nmX1 3 rfl (zz_m 1 rfl) rfl rfl rfl (fun _ => rfl) (fun _ => rfl) es68 dX1_advance_90 (fun H70 lo71 Z72 => ?_)
            clear Z66 es68
            refine lv_aload_n hx hb dX1_advance_93 rfl (lv_at hl73_ 0 rfl) ?_
            refine zy_get (v := .int (σ67 7 3)) X Z72 xL_ok xk_7 rfl rfl (fun w h => List.mem_cons_of_mem _ (List.mem_append_right _ h)) 3 rfl (zz_m 1 rfl) rfl dX1_advance_94 ?_
            refine lv_if_ne (tgt := 101) hx hb dX1_advance_97 (by decide) (fun b73 => ?_) (fun b73 => ?_)
            · have hf74 := zNot hf69 b73
              clear hf69
              refine lv_aload_n hx hb dX1_advance_101 rfl (lv_at hl73_ 0 rfl) ?_
              refine lv_dup hx hb dX1_advance_102 rfl ?_
              refine zy_get (v := .int (σ67 7 5)) X Z72 xL_ok xk_7 rfl rfl (fun w h => List.mem_cons_of_mem _ (List.mem_append_right _ h)) 5 rfl (zz_m 2 rfl) rfl dX1_advance_103 ?_
              refine lv_iconst (v := 1) hx hb dX1_advance_106 (by decide) ?_
              refine lv_iadd hx hb dX1_advance_107 ?_
              obtain ⟨σ75, es76, hf77⟩ := zLet hf74
              clear hf74
              refine zy_put (v := (σ67 7 5) + 1) (σ' := σ75) X Z72 xL_ok xk_7 rfl rfl (fun w h => List.mem_cons_of_mem _ (List.mem_append_right _ h)) tyX1 tyX1_ok nmX1 5 rfl (zz_m 2 rfl) rfl rfl rfl (fun _ => rfl) (fun _ => rfl) es76 dX1_advance_108 (fun H78 lo79 Z80 => ?_)
              clear Z72 es76
              exact b111_ zfu x1 x2 σ75 hf77 _ _ _ Z80 (lv_sub hl73_ [0, 1, 2] rfl)
            · have hf81 := zYes hf69 b73
              clear hf69
              exact zy_vret X hr hlk Z72 (zEnd hf81) dX1_advance_100
          refine lv_aload_n hx hb dX1_advance_35 rfl (lv_at hl35_ 0 rfl) ?_
          refine zy_get (v := .int (σ 7 4)) X Z35_ xL_ok xk_7 rfl rfl (fun w h => List.mem_cons_of_mem _ (List.mem_append_right _ h)) 4 rfl (zz_m 3 rfl) rfl dX1_advance_36 ?_
          refine lv_aload_n hx hb dX1_advance_39 rfl (lv_at hl35_ 0 rfl) ?_
          refine zy_get (v := .int (σ 7 2)) X Z35_ xL_ok xk_7 rfl rfl (fun w h => List.mem_cons_of_mem _ (List.mem_append_right _ h)) 2 rfl (zz_m 4 rfl) rfl dX1_advance_40 ?_
          refine lv_icmp_ge (tgt := 73) hx hb dX1_advance_43 (by decide) (fun b82 => ?_) (fun b82 => ?_)
          · have hf83 := zYes hf35_ b82
            clear hf35_
            exact b73_ x1 x2 σ hf83 _ _ _ Z35_ (lv_sub hl35_ [0, 1, 2] rfl)
          · have hf84 := zNot hf35_ b82
            clear hf35_
            refine lv_aload_n hx hb dX1_advance_46 rfl (lv_at hl35_ 0 rfl) ?_
            refine zy_get (v := .ref (ad 6)) X Z35_ xL_ok xk_7 rfl rfl (fun w h => List.mem_cons_of_mem _ (List.mem_append_right _ h)) 0 rfl (zz_m 5 rfl) rfl dX1_advance_47 ?_
            refine lv_aload_n hx hb dX1_advance_50 rfl (lv_at hl35_ 0 rfl) ?_
            refine zy_get (v := .int (σ 7 4)) X Z35_ xL_ok xk_7 rfl rfl (fun w h => List.mem_cons_of_mem _ (List.mem_append_right _ h)) 4 rfl (zz_m 3 rfl) rfl dX1_advance_51 ?_
            obtain ⟨⟨i85, j86⟩, hf87⟩ := zG hf84
            clear hf84
            refine zy_ild X Z35_ xL_ok xk_6 xl_6 i85 dX1_advance_54 ?_
            refine lv_bipush (v := 32) hx hb dX1_advance_55 (by decide) ?_
            refine lv_icmp_ne (tgt := 73) hx hb dX1_advance_57 (by decide) (fun b88 => ?_) (fun b88 => ?_)
            · have hf89 := zNot hf87 b88
              clear hf87
              exact b73_ x1 x2 σ hf89 _ _ _ Z35_ (lv_sub hl35_ [0, 1, 2] rfl)
            · have hf90 := zYes hf87 b88
              clear hf87
              refine lv_aload_n hx hb dX1_advance_60 rfl (lv_at hl35_ 0 rfl) ?_
              refine lv_dup hx hb dX1_advance_61 rfl ?_
              refine zy_get (v := .int (σ 7 4)) X Z35_ xL_ok xk_7 rfl rfl (fun w h => List.mem_cons_of_mem _ (List.mem_append_right _ h)) 4 rfl (zz_m 3 rfl) rfl dX1_advance_62 ?_
              refine lv_iconst (v := 1) hx hb dX1_advance_65 (by decide) ?_
              refine lv_iadd hx hb dX1_advance_66 ?_
              obtain ⟨σ91, es92, hf93⟩ := zLet hf90
              clear hf90
              refine zy_put (v := (σ 7 4) + 1) (σ' := σ91) X Z35_ xL_ok xk_7 rfl rfl (fun w h => List.mem_cons_of_mem _ (List.mem_append_right _ h)) tyX1 tyX1_ok nmX1 4 rfl (zz_m 3 rfl) rfl rfl rfl (fun _ => rfl) (fun _ => rfl) es92 dX1_advance_67 (fun H94 lo95 Z96 => ?_)
              clear Z35_ es92
              refine lv_goto (tgt := 35) hx hb dX1_advance_70 (by decide) ?_
              exact ih35_ x1 x2 σ91 hf93 _ _ _ Z96 (lv_sub hl35_ [0, 1, 2] rfl)
    refine lv_istore_n (lv' := [(1, .int y0), (0, .ref (ad 7))]) hx hb dX1_advance_21 rfl hl21_ (by decide) rfl (fun ls98 hl97 => ?_)
    clear hl21_
    refine lv_aload_n hx hb dX1_advance_22 rfl (lv_at hl97 1 rfl) ?_
    refine zy_get (v := .int (σ 7 5)) X Z21_ xL_ok xk_7 rfl rfl (fun w h => List.mem_cons_of_mem _ (List.mem_append_right _ h)) 5 rfl (zz_m 2 rfl) rfl dX1_advance_23 ?_
    refine lv_istore_n (lv' := [(2, .int (σ 7 5)), (1, .int y0), (0, .ref (ad 7))]) hx hb dX1_advance_26 rfl hl97 (by decide) rfl (fun ls100 hl99 => ?_)
    clear hl97
    refine lv_aload_n hx hb dX1_advance_27 rfl (lv_at hl99 2 rfl) ?_
    refine lv_aload_n hx hb dX1_advance_28 rfl (lv_at hl99 2 rfl) ?_
    refine zy_get (v := .int (σ 7 5)) X Z21_ xL_ok xk_7 rfl rfl (fun w h => List.mem_cons_of_mem _ (List.mem_append_right _ h)) 5 rfl (zz_m 2 rfl) rfl dX1_advance_29 ?_
    obtain ⟨σ101, es102, hf103⟩ := zLet hf21_
    clear hf21_
    refine zy_put (v := σ 7 5) (σ' := σ101) X Z21_ xL_ok xk_7 rfl rfl (fun w h => List.mem_cons_of_mem _ (List.mem_append_right _ h)) tyX1 tyX1_ok nmX1 4 rfl (zz_m 3 rfl) rfl rfl rfl (fun _ => rfl) (fun _ => rfl) es102 dX1_advance_32 (fun H104 lo105 Z106 => ?_)
    clear Z21_ es102
    exact b35_ zfu y0 (σ 7 5) σ101 hf103 _ _ _ Z106 (lv_sub hl99 [2, 1, 0] rfl)
  have b16_ : ∀ (σ : zg_S), B_X1_advance_16  σ = some (r0, σf) → ∀ (H : Heap) (locs : List Loc) (ls : Array Slot), zz_S D V A s (zg_W XL ad cA σ) (zg_T XL cA) H locs → lv_has ls 5 [(0, .ref (ad 7))] → W p l e (headSpec wsX1_advance { frames := 1, cells := 0, slots := 0, locals := 22 }).room s m (List.toArray [.ref (ad 7)]) below meth c H locs 0 0 (MQ below (va_Qv (fun (_ : Unit) => True) (fun _ t => zz_B D A (zg_W XL ad cA σf) (zg_T XL cA) t) A) (List.toArray [.ref (ad 7)]) s 0 0 A) (F0 m 16 ls []) := by
    intro σ hf16_ H16_ locs16_ ls16_ Z16_ hl16_
    unfold B_X1_advance_16 at hf16_
    refine lv_iconst (v := 1) hx hb dX1_advance_16 (by decide) ?_
    refine lv_goto (tgt := 21) hx hb dX1_advance_17 (by decide) ?_
    exact b21_ 1 σ hf16_ _ _ _ Z16_ (lv_sub hl16_ [0] rfl)
  refine lv_aload_n hx hb dX1_advance_0 rfl (lv_at hl 0 rfl) ?_
  refine zy_get (v := .int (σ 7 3)) X Z xL_ok xk_7 rfl rfl (fun w h => List.mem_cons_of_mem _ (List.mem_append_right _ h)) 3 rfl (zz_m 1 rfl) rfl dX1_advance_1 ?_
  refine lv_iconst (v := 1) hx hb dX1_advance_4 (by decide) ?_
  refine lv_icmp_eq (tgt := 16) hx hb dX1_advance_5 (by decide) (fun b107 => ?_) (fun b107 => ?_)
  · have hf108 := zYes hf b107
    clear hf
    exact b16_ σ hf108 _ _ _ Z (lv_sub hl [0] rfl)
  · have hf109 := zNot hf b107
    clear hf
    refine lv_aload_n hx hb dX1_advance_8 rfl (lv_at hl 0 rfl) ?_
    refine zy_get (v := .int (σ 7 3)) X Z xL_ok xk_7 rfl rfl (fun w h => List.mem_cons_of_mem _ (List.mem_append_right _ h)) 3 rfl (zz_m 1 rfl) rfl dX1_advance_9 ?_
    refine lv_iconst (v := 2) hx hb dX1_advance_12 (by decide) ?_
    refine lv_icmp_ne (tgt := 20) hx hb dX1_advance_13 (by decide) (fun b110 => ?_) (fun b110 => ?_)
    · have hf111 := zNot hf109 b110
      clear hf109
      refine lv_iconst (v := 0) hx hb dX1_advance_20 (by decide) ?_
      exact b21_ 0 σ hf111 _ _ _ Z (lv_sub hl [0] rfl)
    · have hf112 := zYes hf109 b110
      clear hf109
      exact b16_ σ hf112 _ _ _ Z (lv_sub hl [0] rfl)
def B_X1_isWord_28 (q1 : Nat) (rec28_ : Int32 → zg_S → Option (Int32 × zg_S)) (x2 : Int32) (σ : zg_S) : Option (Int32 × zg_S) := zbd (f_J0_length_8abf5 q1 σ) (fun (r1 : Int32) (σ2 : zg_S) => (if r1 ≤ x2 then some (1, σ2) else zbd (f_X1_sortAt ((σ2 7 4) + x2) σ2) (fun (r11 : Int32) (σ12 : zg_S) => (if r11 = 1 then (if zin ((σ12 7 4) + x2) 96 = true then zbd (f_J0_charAt_5068e q1 x2 σ12) (fun (r24 : Int32) (σ25 : zg_S) => (if (σ12 6 (Int32.toNatClampNeg ((σ12 7 4) + x2))) = r24 then rec28_ (x2 + 1) σ25 else some (0, σ25))) else none) else some (0, σ12)))))
def L_X1_isWord_28 (q1 : Nat) : Nat → Int32 → zg_S → Option (Int32 × zg_S) := zfix (fun _ _ => none) (B_X1_isWord_28 q1)
def f_X1_isWord (q1 : Nat) (σ : zg_S) : Option (Int32 × zg_S) := (if (σ 7 3) = 1 then zbd (f_J0_length_8abf5 q1 σ) (fun (r39 : Int32) (σ40 : zg_S) => (if ((σ 7 5) - (σ 7 4)) = r39 then L_X1_isWord_28 q1 zfu 0 σ40 else some (0, σ40))) else some (0, σ))
set_option maxHeartbeats 4000000 in
set_option maxRecDepth 100000 in
theorem c_X1_isWord (l : Launch) (D : va_G) (V : zz_V) (ad : Nat → Nat) (cA : Nat → ClassId) (q1 : Nat) (hq1 : q1 < 6) (σ : zg_S) (r0 : Int32) (σf : zg_S) (hf : f_X1_isWord q1 σ = some (r0, σf)) : zM_I l yX1_isWord wsX1_isWord 4 85 D V XL ad cA [.ref (ad 7), .ref (V.1 q1)] σ r0 σf := by
  intro sz
  refine Met.ofW (cc := cX1_isWord) (maxL := 3) (ret := (some .boolean)) (by decide) rfl ?_
  intro p e s m args below meth c s₁ B hml hv
  obtain ⟨rfl, hC⟩ := hv
  have hx := B.exec
  have hb := B.bytes
  have hr := B.returns
  have hts := atoms_spec (ws := wsX1_isWord) B.pre
  have hown : s.vm.findClass RX1 = some m.cls := findClass_of_methodNamed B.named
  have hlk := B.notSynchronized
  have X : CallFix p m c cX1_isWord 3 s _ wsX1_isWord RX1 := ⟨hx, hb, hml, hown, hts⟩
  have Z := zz_enter hC
  generalize va_A (zg_W XL ad cA σ) sz = A at Z ⊢
  have hl := lv_entry ([.ref (ad 7), .ref (V.1 q1)]) (n := 3) (Nat.le_of_ble_eq_true rfl)
  rw [lg_entry_eq]
  generalize (lg_sl ([.ref (ad 7), .ref (V.1 q1)]) ++ List.replicate (3 - (lg_sl ([.ref (ad 7), .ref (V.1 q1)])).length) Slot.unset).toArray = ls at hl ⊢
  have hl : lv_has ls 3 [(0, .ref (ad 7)), (1, .ref (V.1 q1))] := hl
  unfold f_X1_isWord at hf
  have b28_ : ∀ (k28_ : Nat) (x2 : Int32) (σ : zg_S), L_X1_isWord_28 q1 k28_ x2 σ = some (r0, σf) → ∀ (H : Heap) (locs : List Loc) (ls : Array Slot), zz_S D V A s (zg_W XL ad cA σ) (zg_T XL cA) H locs → lv_has ls 3 [(0, .ref (ad 7)), (1, .ref (V.1 q1)), (2, .int x2)] → W p l e (headSpec wsX1_isWord { frames := 4, cells := 0, slots := 0, locals := 85 }).room s m (List.toArray [.ref (ad 7), .ref (V.1 q1)]) below meth c H locs 0 0 (MQ below (va_Qi (fun r (_ : Unit) => r = r0) (fun _ t => zz_B D A (zg_W XL ad cA σf) (zg_T XL cA) t) A) (List.toArray [.ref (ad 7), .ref (V.1 q1)]) s 0 0 A) (F0 m 28 ls []) := by
    intro k28_
    induction k28_ with
    | zero =>
        intro x2 σ hf28_ H28_ locs28_ ls28_ Z28_ hl28_
        exact zNone hf28_
    | succ k28_ ih28_ =>
        intro x2 σ hf28_ H28_ locs28_ ls28_ Z28_ hl28_
        replace hf28_ : B_X1_isWord_28 q1 (L_X1_isWord_28 q1 k28_) x2 σ = some (r0, σf) := hf28_
        unfold B_X1_isWord_28 at hf28_
        refine lv_iload_n hx hb dX1_isWord_28 rfl (lv_at hl28_ 2 rfl) ?_
        refine lv_aload_n hx hb dX1_isWord_29 rfl (lv_at hl28_ 1 rfl) ?_
        obtain ⟨r1, σ2, hc3, hf4⟩ := zBd hf28_
        clear hf28_
        refine zy_ci (r0 := r1) (WS1 := zg_W XL ad cA σ2) (TYS1 := zg_T XL cA) Z28_ (va_runV (As := []) (rest := [.int x2]) X (c_J0_length_8abf5 l D V ad cA q1 hq1 σ r1 σ2 hc3 H28_.size) (cwV 0 hts gX1_isWord_J0_length_8abf5 rfl rfl rfl ⟨rfl, zh_J0_length_8abf5⟩ ⟨Nat.le_of_ble_eq_true rfl, Nat.le_of_ble_eq_true rfl⟩) (zy_pVs Z28_ hq1) rfl rfl hl28_.1 rfl (lv_room (Nat.le_of_ble_eq_true rfl)) dX1_isWord_30 ⟨Nat.le_of_ble_eq_true rfl, Nat.le_of_ble_eq_true rfl⟩) (fun H5 lo6 Z7 => ?_)
        clear Z28_ hc3
        refine lv_icmp_ge (tgt := 77) hx hb dX1_isWord_33 (by decide) (fun b8 => ?_) (fun b8 => ?_)
        · have hf9 := zYes hf4 b8
          clear hf4
          refine lv_iconst (v := 1) hx hb dX1_isWord_77 (by decide) ?_
          exact zy_zret X hr hlk Z7 (by decide) (zEnd hf9) dX1_isWord_78
        · have hf10 := zNot hf4 b8
          clear hf4
          refine lv_aload_n hx hb dX1_isWord_36 rfl (lv_at hl28_ 0 rfl) ?_
          refine lv_aload_n hx hb dX1_isWord_37 rfl (lv_at hl28_ 0 rfl) ?_
          refine zy_get (v := .int (σ2 7 4)) X Z7 xL_ok xk_7 rfl rfl (fun w h => List.mem_cons_of_mem _ (List.mem_append_right _ h)) 4 rfl (zz_m 3 rfl) rfl dX1_isWord_38 ?_
          refine lv_iload_n hx hb dX1_isWord_41 rfl (lv_at hl28_ 2 rfl) ?_
          refine lv_iadd hx hb dX1_isWord_42 ?_
          obtain ⟨r11, σ12, hc13, hf14⟩ := zBd hf10
          clear hf10
          refine zy_ci (r0 := r11) (WS1 := zg_W XL ad cA σ12) (TYS1 := zg_T XL cA) Z7 (va_runV (As := [.int ((σ2 7 4) + x2)]) (rest := []) X (c_X1_sortAt l D V ad cA ((σ2 7 4) + x2) σ2 r11 σ12 hc13 H5.size) (cwV 1 hts gX1_isWord_X1_sortAt rfl rfl rfl ⟨rfl, zh_X1_sortAt⟩ ⟨Nat.le_of_ble_eq_true rfl, Nat.le_of_ble_eq_true rfl⟩) (zy_pV (ci := 1) Z7 xL_ok xk_7 rfl rfl) rfl rfl hl28_.1 rfl (lv_room (Nat.le_of_ble_eq_true rfl)) dX1_isWord_43 ⟨Nat.le_of_ble_eq_true rfl, Nat.le_of_ble_eq_true rfl⟩) (fun H15 lo16 Z17 => ?_)
          clear Z7 hc13
          refine lv_iconst (v := 1) hx hb dX1_isWord_46 (by decide) ?_
          refine lv_icmp_ne (tgt := 69) hx hb dX1_isWord_47 (by decide) (fun b18 => ?_) (fun b18 => ?_)
          · have hf19 := zNot hf14 b18
            clear hf14
            refine lv_iconst (v := 0) hx hb dX1_isWord_69 (by decide) ?_
            exact zy_zret X hr hlk Z17 (by decide) (zEnd hf19) dX1_isWord_70
          · have hf20 := zYes hf14 b18
            clear hf14
            refine lv_aload_n hx hb dX1_isWord_50 rfl (lv_at hl28_ 0 rfl) ?_
            refine zy_get (v := .ref (ad 6)) X Z17 xL_ok xk_7 rfl rfl (fun w h => List.mem_cons_of_mem _ (List.mem_append_right _ h)) 0 rfl (zz_m 4 rfl) rfl dX1_isWord_51 ?_
            refine lv_aload_n hx hb dX1_isWord_54 rfl (lv_at hl28_ 0 rfl) ?_
            refine zy_get (v := .int (σ12 7 4)) X Z17 xL_ok xk_7 rfl rfl (fun w h => List.mem_cons_of_mem _ (List.mem_append_right _ h)) 4 rfl (zz_m 3 rfl) rfl dX1_isWord_55 ?_
            refine lv_iload_n hx hb dX1_isWord_58 rfl (lv_at hl28_ 2 rfl) ?_
            refine lv_iadd hx hb dX1_isWord_59 ?_
            obtain ⟨⟨i21, j22⟩, hf23⟩ := zG hf20
            clear hf20
            refine zy_ild X Z17 xL_ok xk_6 xl_6 i21 dX1_isWord_60 ?_
            refine lv_aload_n hx hb dX1_isWord_61 rfl (lv_at hl28_ 1 rfl) ?_
            refine lv_iload_n hx hb dX1_isWord_62 rfl (lv_at hl28_ 2 rfl) ?_
            obtain ⟨r24, σ25, hc26, hf27⟩ := zBd hf23
            clear hf23
            refine zy_ci (r0 := r24) (WS1 := zg_W XL ad cA σ25) (TYS1 := zg_T XL cA) Z17 (va_runV (As := [.int x2]) (rest := [.int (σ12 6 (Int32.toNatClampNeg ((σ12 7 4) + x2)))]) X (c_J0_charAt_5068e l D V ad cA q1 x2 hq1 σ12 r24 σ25 hc26 H15.size) (cwV 1 hts gX1_isWord_J0_charAt_5068e rfl rfl rfl ⟨rfl, zh_J0_charAt_5068e⟩ ⟨Nat.le_of_ble_eq_true rfl, Nat.le_of_ble_eq_true rfl⟩) (zy_pVs Z17 hq1) rfl rfl hl28_.1 rfl (lv_room (Nat.le_of_ble_eq_true rfl)) dX1_isWord_63 ⟨Nat.le_of_ble_eq_true rfl, Nat.le_of_ble_eq_true rfl⟩) (fun H28 lo29 Z30 => ?_)
            clear Z17 hc26
            refine lv_icmp_eq (tgt := 71) hx hb dX1_isWord_66 (by decide) (fun b31 => ?_) (fun b31 => ?_)
            · have hf32 := zYes hf27 b31
              clear hf27
              refine lv_iinc (v := (x2 + 1)) (lv' := [(2, .int (x2 + 1)), (0, .ref (ad 7)), (1, .ref (V.1 q1))]) hx hb dX1_isWord_71 hl28_ (k := 2) rfl rfl (by decide) rfl (fun ls34 hl33 => ?_)
              clear hl28_
              refine lv_goto (tgt := 28) hx hb dX1_isWord_74 (by decide) ?_
              exact ih28_ (x2 + 1) σ25 hf32 _ _ _ Z30 (lv_sub hl33 [1, 2, 0] rfl)
            · have hf35 := zNot hf27 b31
              clear hf27
              refine lv_iconst (v := 0) hx hb dX1_isWord_69 (by decide) ?_
              exact zy_zret X hr hlk Z30 (by decide) (zEnd hf35) dX1_isWord_70
  refine lv_aload_n hx hb dX1_isWord_0 rfl (lv_at hl 0 rfl) ?_
  refine zy_get (v := .int (σ 7 3)) X Z xL_ok xk_7 rfl rfl (fun w h => List.mem_cons_of_mem _ (List.mem_append_right _ h)) 3 rfl (zz_m 1 rfl) rfl dX1_isWord_1 ?_
  refine lv_iconst (v := 1) hx hb dX1_isWord_4 (by decide) ?_
  refine lv_icmp_ne (tgt := 24) hx hb dX1_isWord_5 (by decide) (fun b36 => ?_) (fun b36 => ?_)
  · have hf37 := zNot hf b36
    clear hf
    refine lv_iconst (v := 0) hx hb dX1_isWord_24 (by decide) ?_
    exact zy_zret X hr hlk Z (by decide) (zEnd hf37) dX1_isWord_25
  · have hf38 := zYes hf b36
    clear hf
    refine lv_aload_n hx hb dX1_isWord_8 rfl (lv_at hl 0 rfl) ?_
    refine zy_get (v := .int (σ 7 5)) X Z xL_ok xk_7 rfl rfl (fun w h => List.mem_cons_of_mem _ (List.mem_append_right _ h)) 5 rfl (zz_m 2 rfl) rfl dX1_isWord_9 ?_
    refine lv_aload_n hx hb dX1_isWord_12 rfl (lv_at hl 0 rfl) ?_
    refine zy_get (v := .int (σ 7 4)) X Z xL_ok xk_7 rfl rfl (fun w h => List.mem_cons_of_mem _ (List.mem_append_right _ h)) 4 rfl (zz_m 3 rfl) rfl dX1_isWord_13 ?_
    refine lv_isub hx hb dX1_isWord_16 ?_
    refine lv_aload_n hx hb dX1_isWord_17 rfl (lv_at hl 1 rfl) ?_
    obtain ⟨r39, σ40, hc41, hf42⟩ := zBd hf38
    clear hf38
    refine zy_ci (r0 := r39) (WS1 := zg_W XL ad cA σ40) (TYS1 := zg_T XL cA) Z (va_runV (As := []) (rest := [.int ((σ 7 5) - (σ 7 4))]) X (c_J0_length_8abf5 l D V ad cA q1 hq1 σ r39 σ40 hc41 s.heap.size) (cwV 0 hts gX1_isWord_J0_length_8abf5 rfl rfl rfl ⟨rfl, zh_J0_length_8abf5⟩ ⟨Nat.le_of_ble_eq_true rfl, Nat.le_of_ble_eq_true rfl⟩) (zy_pVs Z hq1) rfl rfl hl.1 rfl (lv_room (Nat.le_of_ble_eq_true rfl)) dX1_isWord_18 ⟨Nat.le_of_ble_eq_true rfl, Nat.le_of_ble_eq_true rfl⟩) (fun H43 lo44 Z45 => ?_)
    clear Z hc41
    refine lv_icmp_eq (tgt := 26) hx hb dX1_isWord_21 (by decide) (fun b46 => ?_) (fun b46 => ?_)
    · have hf47 := zYes hf42 b46
      clear hf42
      refine lv_iconst (v := 0) hx hb dX1_isWord_26 (by decide) ?_
      refine lv_istore_n (lv' := [(2, .int 0), (0, .ref (ad 7)), (1, .ref (V.1 q1))]) hx hb dX1_isWord_27 rfl hl (by decide) rfl (fun ls49 hl48 => ?_)
      clear hl
      exact b28_ zfu 0 σ40 hf47 _ _ _ Z45 (lv_sub hl48 [1, 2, 0] rfl)
    · have hf50 := zNot hf42 b46
      clear hf42
      refine lv_iconst (v := 0) hx hb dX1_isWord_24 (by decide) ?_
      exact zy_zret X hr hlk Z45 (by decide) (zEnd hf50) dX1_isWord_25
def f_X1_keyHere  (σ : zg_S) : Option (Int32 × zg_S) := zbd (f_X1_isWord 0 σ) (fun (r1 : Int32) (σ2 : zg_S) => (if r1 = 0 then zbd (f_X1_isWord 1 σ2) (fun (r10 : Int32) (σ11 : zg_S) => (if r10 = 0 then zbd (f_X1_isWord 2 σ11) (fun (r19 : Int32) (σ20 : zg_S) => (if r19 = 0 then some ((-1000000005), σ20) else some (2, σ20))) else some (1, σ11))) else some (0, σ2)))
set_option maxHeartbeats 4000000 in
set_option maxRecDepth 100000 in
theorem c_X1_keyHere (l : Launch) (D : va_G) (V : zz_V) (ad : Nat → Nat) (cA : Nat → ClassId)   (σ : zg_S) (r0 : Int32) (σf : zg_S) (hf : f_X1_keyHere  σ = some (r0, σf)) : zM_I l yX1_keyHere wsX1_keyHere 5 107 D V XL ad cA [.ref (ad 7)] σ r0 σf := by
  intro sz
  refine Met.ofW (cc := cX1_keyHere) (maxL := 1) (ret := (some .int)) (by decide) rfl ?_
  intro p e s m args below meth c s₁ B hml hv
  obtain ⟨rfl, hC⟩ := hv
  have hx := B.exec
  have hb := B.bytes
  have hr := B.returns
  have hts := atoms_spec (ws := wsX1_keyHere) B.pre
  have hown : s.vm.findClass RX1 = some m.cls := findClass_of_methodNamed B.named
  have hlk := B.notSynchronized
  have X : CallFix p m c cX1_keyHere 1 s _ wsX1_keyHere RX1 := ⟨hx, hb, hml, hown, hts⟩
  have Z := zz_enter hC
  generalize va_A (zg_W XL ad cA σ) sz = A at Z ⊢
  have hl := lv_entry ([.ref (ad 7)]) (n := 1) (Nat.le_of_ble_eq_true rfl)
  rw [lg_entry_eq]
  generalize (lg_sl ([.ref (ad 7)]) ++ List.replicate (1 - (lg_sl ([.ref (ad 7)])).length) Slot.unset).toArray = ls at hl ⊢
  have hl : lv_has ls 1 [(0, .ref (ad 7))] := hl
  unfold f_X1_keyHere at hf
  refine lv_aload_n hx hb dX1_keyHere_0 rfl (lv_at hl 0 rfl) ?_
  refine va_ldcS hx hb hown (Z.2.2.2.2.2.2.2.1 (65, "melt", 0) (zz_m 0 rfl)) dX1_keyHere_1 ?_
  obtain ⟨r1, σ2, hc3, hf4⟩ := zBd hf
  clear hf
  refine zy_ci (r0 := r1) (WS1 := zg_W XL ad cA σ2) (TYS1 := zg_T XL cA) Z (va_runV (As := [.ref (V.1 0)]) (rest := []) X (c_X1_isWord l D V ad cA 0 (by decide) σ r1 σ2 hc3 s.heap.size) (cwV 1 hts gX1_keyHere_X1_isWord rfl rfl rfl ⟨rfl, zh_X1_isWord⟩ ⟨Nat.le_of_ble_eq_true rfl, Nat.le_of_ble_eq_true rfl⟩) (zy_pV (ci := 1) Z xL_ok xk_7 rfl rfl) rfl rfl hl.1 rfl (lv_room (Nat.le_of_ble_eq_true rfl)) dX1_keyHere_3 ⟨Nat.le_of_ble_eq_true rfl, Nat.le_of_ble_eq_true rfl⟩) (fun H5 lo6 Z7 => ?_)
  clear Z hc3
  refine lv_if_eq (tgt := 11) hx hb dX1_keyHere_6 (by decide) (fun b8 => ?_) (fun b8 => ?_)
  · have hf9 := zYes hf4 b8
    clear hf4
    refine lv_aload_n hx hb dX1_keyHere_11 rfl (lv_at hl 0 rfl) ?_
    refine va_ldcS hx hb hown (Z7.2.2.2.2.2.2.2.1 (71, "fee", 1) (zz_m 1 rfl)) dX1_keyHere_12 ?_
    obtain ⟨r10, σ11, hc12, hf13⟩ := zBd hf9
    clear hf9
    refine zy_ci (r0 := r10) (WS1 := zg_W XL ad cA σ11) (TYS1 := zg_T XL cA) Z7 (va_runV (As := [.ref (V.1 1)]) (rest := []) X (c_X1_isWord l D V ad cA 1 (by decide) σ2 r10 σ11 hc12 H5.size) (cwV 1 hts gX1_keyHere_X1_isWord rfl rfl rfl ⟨rfl, zh_X1_isWord⟩ ⟨Nat.le_of_ble_eq_true rfl, Nat.le_of_ble_eq_true rfl⟩) (zy_pV (ci := 1) Z7 xL_ok xk_7 rfl rfl) rfl rfl hl.1 rfl (lv_room (Nat.le_of_ble_eq_true rfl)) dX1_keyHere_14 ⟨Nat.le_of_ble_eq_true rfl, Nat.le_of_ble_eq_true rfl⟩) (fun H14 lo15 Z16 => ?_)
    clear Z7 hc12
    refine lv_if_eq (tgt := 22) hx hb dX1_keyHere_17 (by decide) (fun b17 => ?_) (fun b17 => ?_)
    · have hf18 := zYes hf13 b17
      clear hf13
      refine lv_aload_n hx hb dX1_keyHere_22 rfl (lv_at hl 0 rfl) ?_
      refine va_ldcS hx hb hown (Z16.2.2.2.2.2.2.2.1 (73, "fine", 2) (zz_m 2 rfl)) dX1_keyHere_23 ?_
      obtain ⟨r19, σ20, hc21, hf22⟩ := zBd hf18
      clear hf18
      refine zy_ci (r0 := r19) (WS1 := zg_W XL ad cA σ20) (TYS1 := zg_T XL cA) Z16 (va_runV (As := [.ref (V.1 2)]) (rest := []) X (c_X1_isWord l D V ad cA 2 (by decide) σ11 r19 σ20 hc21 H14.size) (cwV 1 hts gX1_keyHere_X1_isWord rfl rfl rfl ⟨rfl, zh_X1_isWord⟩ ⟨Nat.le_of_ble_eq_true rfl, Nat.le_of_ble_eq_true rfl⟩) (zy_pV (ci := 1) Z16 xL_ok xk_7 rfl rfl) rfl rfl hl.1 rfl (lv_room (Nat.le_of_ble_eq_true rfl)) dX1_keyHere_25 ⟨Nat.le_of_ble_eq_true rfl, Nat.le_of_ble_eq_true rfl⟩) (fun H23 lo24 Z25 => ?_)
      clear Z16 hc21
      refine lv_if_eq (tgt := 35) hx hb dX1_keyHere_28 (by decide) (fun b26 => ?_) (fun b26 => ?_)
      · have hf27 := zYes hf22 b26
        clear hf22
        refine lv_ldc (v := (-1000000005)) hx hb hown (hts _ (zz_m 1 rfl)) dX1_keyHere_35 ?_
        exact zy_iret X hr hlk Z25 (zEnd hf27) dX1_keyHere_37
      · have hf28 := zNot hf22 b26
        clear hf22
        refine lv_iconst (v := 2) hx hb dX1_keyHere_31 (by decide) ?_
        refine lv_goto (tgt := 37) hx hb dX1_keyHere_32 (by decide) ?_
        exact zy_iret X hr hlk Z25 (zEnd hf28) dX1_keyHere_37
    · have hf29 := zNot hf13 b17
      clear hf13
      refine lv_iconst (v := 1) hx hb dX1_keyHere_20 (by decide) ?_
      exact zy_iret X hr hlk Z16 (zEnd hf29) dX1_keyHere_21
  · have hf30 := zNot hf4 b8
    clear hf4
    refine lv_iconst (v := 0) hx hb dX1_keyHere_9 (by decide) ?_
    exact zy_iret X hr hlk Z7 (zEnd hf30) dX1_keyHere_10
def f_X1_levelOf (a0 : Int32) (σ : zg_S) : Option (Int32 × zg_S) := (if a0 = 38 then some (1, σ) else (if a0 = 42 then some (4, σ) else (if a0 = 43 then some (3, σ) else (if a0 = 45 then some (3, σ) else (if a0 = 47 then some (4, σ) else (if a0 = 60 then some (2, σ) else (if a0 = 61 then some (2, σ) else (if a0 = 62 then some (2, σ) else (if a0 = 124 then some (0, σ) else some ((-1000000005), σ))))))))))
set_option maxHeartbeats 4000000 in
set_option maxRecDepth 100000 in
theorem c_X1_levelOf (l : Launch) (D : va_G) (V : zz_V) (ad : Nat → Nat) (cA : Nat → ClassId) (a0 : Int32)  (σ : zg_S) (r0 : Int32) (σf : zg_S) (hf : f_X1_levelOf a0 σ = some (r0, σf)) : zM_I l yX1_levelOf wsX1_levelOf 0 0 D V XL ad cA [.int a0] σ r0 σf := by
  intro sz
  refine Met.ofW (cc := cX1_levelOf) (maxL := 1) (ret := (some .int)) (by decide) rfl ?_
  intro p e s m args below meth c s₁ B hml hv
  obtain ⟨rfl, hC⟩ := hv
  have hx := B.exec
  have hb := B.bytes
  have hr := B.returns
  have hts := atoms_spec (ws := wsX1_levelOf) B.pre
  have hown : s.vm.findClass RX1 = some m.cls := findClass_of_methodNamed B.named
  have hlk := B.notSynchronized
  have X : CallFix p m c cX1_levelOf 1 s _ wsX1_levelOf RX1 := ⟨hx, hb, hml, hown, hts⟩
  have Z := zz_enter hC
  generalize va_A (zg_W XL ad cA σ) sz = A at Z ⊢
  have hl := lv_entry ([.int a0]) (n := 1) (Nat.le_of_ble_eq_true rfl)
  rw [lg_entry_eq]
  generalize (lg_sl ([.int a0]) ++ List.replicate (1 - (lg_sl ([.int a0])).length) Slot.unset).toArray = ls at hl ⊢
  have hl : lv_has ls 1 [(0, .int a0)] := hl
  unfold f_X1_levelOf at hf
  refine lv_iload_n hx hb dX1_levelOf_0 rfl (lv_at hl 0 rfl) ?_
  by_cases w1 : a0 = 38
  · have hf2 := zYes hf w1
    clear hf
    refine zz_v w1 ?_
    refine lv_lookup (x := 38) (off := 85) (tgt := 86) hx hb dX1_levelOf_1 (by decide) (by decide) (by decide) ?_
    refine lv_iconst (v := 1) hx hb dX1_levelOf_86 (by decide) ?_
    exact zy_iret X hr hlk Z (zEnd hf2) dX1_levelOf_87
  · have hf3 := zNot hf w1
    clear hf
    by_cases w4 : a0 = 42
    · have hf5 := zYes hf3 w4
      clear hf3
      refine zz_v w4 ?_
      refine lv_lookup (x := 42) (off := 97) (tgt := 98) hx hb dX1_levelOf_1 (by decide) (by decide) (by decide) ?_
      refine lv_iconst (v := 4) hx hb dX1_levelOf_98 (by decide) ?_
      exact zy_iret X hr hlk Z (zEnd hf5) dX1_levelOf_99
    · have hf6 := zNot hf3 w4
      clear hf3
      by_cases w7 : a0 = 43
      · have hf8 := zYes hf6 w7
        clear hf6
        refine zz_v w7 ?_
        refine lv_lookup (x := 43) (off := 93) (tgt := 94) hx hb dX1_levelOf_1 (by decide) (by decide) (by decide) ?_
        refine lv_iconst (v := 3) hx hb dX1_levelOf_94 (by decide) ?_
        exact zy_iret X hr hlk Z (zEnd hf8) dX1_levelOf_95
      · have hf9 := zNot hf6 w7
        clear hf6
        by_cases w10 : a0 = 45
        · have hf11 := zYes hf9 w10
          clear hf9
          refine zz_v w10 ?_
          refine lv_lookup (x := 45) (off := 95) (tgt := 96) hx hb dX1_levelOf_1 (by decide) (by decide) (by decide) ?_
          refine lv_iconst (v := 3) hx hb dX1_levelOf_96 (by decide) ?_
          exact zy_iret X hr hlk Z (zEnd hf11) dX1_levelOf_97
        · have hf12 := zNot hf9 w10
          clear hf9
          by_cases w13 : a0 = 47
          · have hf14 := zYes hf12 w13
            clear hf12
            refine zz_v w13 ?_
            refine lv_lookup (x := 47) (off := 99) (tgt := 100) hx hb dX1_levelOf_1 (by decide) (by decide) (by decide) ?_
            refine lv_iconst (v := 4) hx hb dX1_levelOf_100 (by decide) ?_
            exact zy_iret X hr hlk Z (zEnd hf14) dX1_levelOf_101
          · have hf15 := zNot hf12 w13
            clear hf12
            by_cases w16 : a0 = 60
            · have hf17 := zYes hf15 w16
              clear hf15
              refine zz_v w16 ?_
              refine lv_lookup (x := 60) (off := 87) (tgt := 88) hx hb dX1_levelOf_1 (by decide) (by decide) (by decide) ?_
              refine lv_iconst (v := 2) hx hb dX1_levelOf_88 (by decide) ?_
              exact zy_iret X hr hlk Z (zEnd hf17) dX1_levelOf_89
            · have hf18 := zNot hf15 w16
              clear hf15
              by_cases w19 : a0 = 61
              · have hf20 := zYes hf18 w19
                clear hf18
                refine zz_v w19 ?_
                refine lv_lookup (x := 61) (off := 89) (tgt := 90) hx hb dX1_levelOf_1 (by decide) (by decide) (by decide) ?_
                refine lv_iconst (v := 2) hx hb dX1_levelOf_90 (by decide) ?_
                exact zy_iret X hr hlk Z (zEnd hf20) dX1_levelOf_91
              · have hf21 := zNot hf18 w19
                clear hf18
                by_cases w22 : a0 = 62
                · have hf23 := zYes hf21 w22
                  clear hf21
                  refine zz_v w22 ?_
                  refine lv_lookup (x := 62) (off := 91) (tgt := 92) hx hb dX1_levelOf_1 (by decide) (by decide) (by decide) ?_
                  refine lv_iconst (v := 2) hx hb dX1_levelOf_92 (by decide) ?_
                  exact zy_iret X hr hlk Z (zEnd hf23) dX1_levelOf_93
                · have hf24 := zNot hf21 w22
                  clear hf21
                  by_cases w25 : a0 = 124
                  · have hf26 := zYes hf24 w25
                    clear hf24
                    refine zz_v w25 ?_
                    refine lv_lookup (x := 124) (off := 83) (tgt := 84) hx hb dX1_levelOf_1 (by decide) (by decide) (by decide) ?_
                    refine lv_iconst (v := 0) hx hb dX1_levelOf_84 (by decide) ?_
                    exact zy_iret X hr hlk Z (zEnd hf26) dX1_levelOf_85
                  · have hf27 := zNot hf24 w25
                    clear hf24
                    have n28 := zNe (k := 38) (y := 38) (by decide) w1
                    have n29 := zNe (k := 42) (y := 42) (by decide) w4
                    have n30 := zNe (k := 43) (y := 43) (by decide) w7
                    have n31 := zNe (k := 45) (y := 45) (by decide) w10
                    have n32 := zNe (k := 47) (y := 47) (by decide) w13
                    have n33 := zNe (k := 60) (y := 60) (by decide) w16
                    have n34 := zNe (k := 61) (y := 61) (by decide) w19
                    have n35 := zNe (k := 62) (y := 62) (by decide) w22
                    have n36 := zNe (k := 124) (y := 124) (by decide) w25
                    refine lv_lookup (off := 101) (tgt := 102) hx hb dX1_levelOf_1 (by decide) (by simp [Op.lookupswitch.offset, n28, n29, n30, n31, n32, n33, n34, n35, n36, Ne.symm n28, Ne.symm n29, Ne.symm n30, Ne.symm n31, Ne.symm n32, Ne.symm n33, Ne.symm n34, Ne.symm n35, Ne.symm n36]) (by decide) ?_
                    refine lv_ldc (v := (-1000000005)) hx hb hown (hts _ (zz_m 1 rfl)) dX1_levelOf_102 ?_
                    exact zy_iret X hr hlk Z (zEnd hf27) dX1_levelOf_104
def f_X5_addStep (q0 : Nat) (a1 : Int32) (σ : zg_S) : Option (Int32 × zg_S) := (if 96 ≤ (σ q0 2) then some (0, σ) else (if zin (σ q0 2) 96 = true then zlet (zg_up σ (q0 + 1) (Int32.toNatClampNeg (σ q0 2)) a1) (fun (σ7 : zg_S) => zlet (zg_up σ7 q0 2 ((σ7 q0 2) + 1)) (fun (σ13 : zg_S) => some (0, σ13))) else none))
set_option maxHeartbeats 4000000 in
set_option maxRecDepth 100000 in
theorem c_X5_addStep (l : Launch) (D : va_G) (V : zz_V) (ad : Nat → Nat) (cA : Nat → ClassId) (q0 : Nat) (a1 : Int32) (hq0 : XL.2.1 q0 = 5) (σ : zg_S) (r0 : Int32) (σf : zg_S) (hf : f_X5_addStep q0 a1 σ = some (r0, σf)) : zM_V l yX5_addStep wsX5_addStep 0 0 D V XL ad cA [.ref (ad q0), .int a1] σ r0 σf := by
  intro sz
  refine Met.ofW (cc := cX5_addStep) (maxL := 2) (ret := none) (by decide) rfl ?_
  intro p e s m args below meth c s₁ B hml hv
  obtain ⟨rfl, hC⟩ := hv
  have hx := B.exec
  have hb := B.bytes
  have hr := B.returns
  have hts := atoms_spec (ws := wsX5_addStep) B.pre
  have hown : s.vm.findClass RX5 = some m.cls := findClass_of_methodNamed B.named
  have hlk := B.notSynchronized
  have X : CallFix p m c cX5_addStep 2 s _ wsX5_addStep RX5 := ⟨hx, hb, hml, hown, hts⟩
  have Z := zz_enter hC
  generalize va_A (zg_W XL ad cA σ) sz = A at Z ⊢
  have hl := lv_entry ([.ref (ad q0), .int a1]) (n := 2) (Nat.le_of_ble_eq_true rfl)
  rw [lg_entry_eq]
  generalize (lg_sl ([.ref (ad q0), .int a1]) ++ List.replicate (2 - (lg_sl ([.ref (ad q0), .int a1])).length) Slot.unset).toArray = ls at hl ⊢
  have hl : lv_has ls 2 [(0, .ref (ad q0)), (1, .int a1)] := hl
  unfold f_X5_addStep at hf
  refine lv_aload_n hx hb dX5_addStep_0 rfl (lv_at hl 0 rfl) ?_
  refine zy_get (v := .int (σ q0 2)) X Z xL_ok hq0 rfl rfl (fun w h => List.mem_cons_of_mem _ (List.mem_append_right _ h)) 2 rfl (zz_m 1 rfl) rfl dX5_addStep_1 ?_
  refine lv_bipush (v := 96) hx hb dX5_addStep_4 (by decide) ?_
  refine lv_icmp_ge (tgt := 29) hx hb dX5_addStep_6 (by decide) (fun b1 => ?_) (fun b1 => ?_)
  · have hf2 := zYes hf b1
    clear hf
    exact zy_vret X hr hlk Z (zEnd hf2) dX5_addStep_29
  · have hf3 := zNot hf b1
    clear hf
    refine lv_aload_n hx hb dX5_addStep_9 rfl (lv_at hl 0 rfl) ?_
    refine zy_get (v := .ref (ad (q0 + 1))) X Z xL_ok hq0 rfl rfl (fun w h => List.mem_cons_of_mem _ (List.mem_append_right _ h)) 3 rfl (zz_m 2 rfl) rfl dX5_addStep_10 ?_
    refine lv_aload_n hx hb dX5_addStep_13 rfl (lv_at hl 0 rfl) ?_
    refine zy_get (v := .int (σ q0 2)) X Z xL_ok hq0 rfl rfl (fun w h => List.mem_cons_of_mem _ (List.mem_append_right _ h)) 2 rfl (zz_m 1 rfl) rfl dX5_addStep_14 ?_
    refine lv_iload_n hx hb dX5_addStep_17 rfl (lv_at hl 1 rfl) ?_
    obtain ⟨⟨i4, j5⟩, hf6⟩ := zG hf3
    clear hf3
    obtain ⟨σ7, es8, hf9⟩ := zLet hf6
    clear hf6
    refine zy_ist (σ' := σ7) X Z xL_ok (xT1 hq0) (xT1l hq0) i4 es8 dX5_addStep_18 (fun H10 lo11 Z12 => ?_)
    clear Z es8
    refine lv_aload_n hx hb dX5_addStep_19 rfl (lv_at hl 0 rfl) ?_
    refine lv_dup hx hb dX5_addStep_20 rfl ?_
    refine zy_get (v := .int (σ7 q0 2)) X Z12 xL_ok hq0 rfl rfl (fun w h => List.mem_cons_of_mem _ (List.mem_append_right _ h)) 2 rfl (zz_m 1 rfl) rfl dX5_addStep_21 ?_
    refine lv_iconst (v := 1) hx hb dX5_addStep_24 (by decide) ?_
    refine lv_iadd hx hb dX5_addStep_25 ?_
    obtain ⟨σ13, es14, hf15⟩ := zLet hf9
    clear hf9
    refine zy_put (v := (σ7 q0 2) + 1) (σ' := σ13) X Z12 xL_ok hq0 rfl rfl (fun w h => List.mem_cons_of_mem _ (List.mem_append_right _ h)) tyX5 tyX5_ok nmX5 2 rfl (zz_m 1 rfl) rfl rfl rfl (fun _ => rfl) (fun _ => rfl) es14 dX5_addStep_26 (fun H16 lo17 Z18 => ?_)
    clear Z12 es14
    exact zy_vret X hr hlk Z18 (zEnd hf15) dX5_addStep_29
def f_X5_addLeaf (q0 : Nat) (a1 : Int32) (σ : zg_S) : Option (Int32 × zg_S) := zlet (zg_up σ q0 1 ((σ q0 1) + 1)) (fun (σ1 : zg_S) => zbd (f_X5_addStep q0 a1 σ1) (fun (r7 : Int32) (σ8 : zg_S) => some (0, σ8)))
set_option maxHeartbeats 4000000 in
set_option maxRecDepth 100000 in
theorem c_X5_addLeaf (l : Launch) (D : va_G) (V : zz_V) (ad : Nat → Nat) (cA : Nat → ClassId) (q0 : Nat) (a1 : Int32) (hq0 : XL.2.1 q0 = 5) (σ : zg_S) (r0 : Int32) (σf : zg_S) (hf : f_X5_addLeaf q0 a1 σ = some (r0, σf)) : zM_V l yX5_addLeaf wsX5_addLeaf 1 21 D V XL ad cA [.ref (ad q0), .int a1] σ r0 σf := by
  intro sz
  refine Met.ofW (cc := cX5_addLeaf) (maxL := 2) (ret := none) (by decide) rfl ?_
  intro p e s m args below meth c s₁ B hml hv
  obtain ⟨rfl, hC⟩ := hv
  have hx := B.exec
  have hb := B.bytes
  have hr := B.returns
  have hts := atoms_spec (ws := wsX5_addLeaf) B.pre
  have hown : s.vm.findClass RX5 = some m.cls := findClass_of_methodNamed B.named
  have hlk := B.notSynchronized
  have X : CallFix p m c cX5_addLeaf 2 s _ wsX5_addLeaf RX5 := ⟨hx, hb, hml, hown, hts⟩
  have Z := zz_enter hC
  generalize va_A (zg_W XL ad cA σ) sz = A at Z ⊢
  have hl := lv_entry ([.ref (ad q0), .int a1]) (n := 2) (Nat.le_of_ble_eq_true rfl)
  rw [lg_entry_eq]
  generalize (lg_sl ([.ref (ad q0), .int a1]) ++ List.replicate (2 - (lg_sl ([.ref (ad q0), .int a1])).length) Slot.unset).toArray = ls at hl ⊢
  have hl : lv_has ls 2 [(0, .ref (ad q0)), (1, .int a1)] := hl
  unfold f_X5_addLeaf at hf
  refine lv_aload_n hx hb dX5_addLeaf_0 rfl (lv_at hl 0 rfl) ?_
  refine lv_dup hx hb dX5_addLeaf_1 rfl ?_
  refine zy_get (v := .int (σ q0 1)) X Z xL_ok hq0 rfl rfl (fun w h => List.mem_cons_of_mem _ (List.mem_append_right _ h)) 1 rfl (zz_m 1 rfl) rfl dX5_addLeaf_2 ?_
  refine lv_iconst (v := 1) hx hb dX5_addLeaf_5 (by decide) ?_
  refine lv_iadd hx hb dX5_addLeaf_6 ?_
  obtain ⟨σ1, es2, hf3⟩ := zLet hf
  clear hf
  refine zy_put (v := (σ q0 1) + 1) (σ' := σ1) X Z xL_ok hq0 rfl rfl (fun w h => List.mem_cons_of_mem _ (List.mem_append_right _ h)) tyX5 tyX5_ok nmX5 1 rfl (zz_m 1 rfl) rfl rfl rfl (fun _ => rfl) (fun _ => rfl) es2 dX5_addLeaf_7 (fun H4 lo5 Z6 => ?_)
  clear Z es2
  refine lv_aload_n hx hb dX5_addLeaf_10 rfl (lv_at hl 0 rfl) ?_
  refine lv_iload_n hx hb dX5_addLeaf_11 rfl (lv_at hl 1 rfl) ?_
  obtain ⟨r7, σ8, hc9, hf10⟩ := zBd hf3
  clear hf3
  refine zy_cv (WS1 := zg_W XL ad cA σ8) (TYS1 := zg_T XL cA) Z6 (va_runV (As := [.int a1]) (rest := []) X (c_X5_addStep l D V ad cA q0 a1 hq0 σ1 r7 σ8 hc9 H4.size) (cwV 1 hts gX5_addLeaf_X5_addStep rfl rfl rfl ⟨rfl, zh_X5_addStep⟩ ⟨Nat.le_of_ble_eq_true rfl, Nat.le_of_ble_eq_true rfl⟩) (zy_pV (ci := 5) Z6 xL_ok hq0 rfl rfl) rfl rfl hl.1 rfl (lv_room (Nat.le_of_ble_eq_true rfl)) dX5_addLeaf_12 ⟨Nat.le_of_ble_eq_true rfl, Nat.le_of_ble_eq_true rfl⟩) (fun H11 lo12 Z13 => ?_)
  clear Z6 hc9
  exact zy_vret X hr hlk Z13 (zEnd hf10) dX5_addLeaf_15
def B_X1_readNumber_44 (x1 : Int32) (σ : zg_S) : Option (Int32 × zg_S) := zbd (f_X5_addLeaf 8 x1 σ) (fun (r1 : Int32) (σ2 : zg_S) => zbd (f_X1_advance σ2) (fun (r8 : Int32) (σ9 : zg_S) => some (1, σ9)))
def B_X1_readNumber_7 (rec7_ : Int32 → Int32 → zg_S → Option (Int32 × zg_S)) (x1 : Int32) (x2 : Int32) (σ : zg_S) : Option (Int32 × zg_S) := (if (σ 7 5) ≤ x2 then B_X1_readNumber_44 x1 σ else (if (σ 7 2) ≤ x2 then B_X1_readNumber_44 x1 σ else (if zin x2 96 = true then zlet (((x1 * 10) + (σ 6 (Int32.toNatClampNeg x2))) - 48) (fun (y24 : Int32) => rec7_ y24 (x2 + 1) σ) else none)))
def L_X1_readNumber_7 : Nat → Int32 → Int32 → zg_S → Option (Int32 × zg_S) := zfix (fun _ _ _ => none) (B_X1_readNumber_7)
def f_X1_readNumber  (σ : zg_S) : Option (Int32 × zg_S) := L_X1_readNumber_7 zfu 0 (σ 7 4) σ
set_option maxHeartbeats 4000000 in
set_option maxRecDepth 100000 in
theorem c_X1_readNumber (l : Launch) (D : va_G) (V : zz_V) (ad : Nat → Nat) (cA : Nat → ClassId)   (σ : zg_S) (r0 : Int32) (σf : zg_S) (hf : f_X1_readNumber  σ = some (r0, σf)) : zM_I l yX1_readNumber wsX1_readNumber 2 46 D V XL ad cA [.ref (ad 7)] σ r0 σf := by
  intro sz
  refine Met.ofW (cc := cX1_readNumber) (maxL := 3) (ret := (some .boolean)) (by decide) rfl ?_
  intro p e s m args below meth c s₁ B hml hv
  obtain ⟨rfl, hC⟩ := hv
  have hx := B.exec
  have hb := B.bytes
  have hr := B.returns
  have hts := atoms_spec (ws := wsX1_readNumber) B.pre
  have hown : s.vm.findClass RX1 = some m.cls := findClass_of_methodNamed B.named
  have hlk := B.notSynchronized
  have X : CallFix p m c cX1_readNumber 3 s _ wsX1_readNumber RX1 := ⟨hx, hb, hml, hown, hts⟩
  have Z := zz_enter hC
  generalize va_A (zg_W XL ad cA σ) sz = A at Z ⊢
  have hl := lv_entry ([.ref (ad 7)]) (n := 3) (Nat.le_of_ble_eq_true rfl)
  rw [lg_entry_eq]
  generalize (lg_sl ([.ref (ad 7)]) ++ List.replicate (3 - (lg_sl ([.ref (ad 7)])).length) Slot.unset).toArray = ls at hl ⊢
  have hl : lv_has ls 3 [(0, .ref (ad 7))] := hl
  unfold f_X1_readNumber at hf
  have b7_ : ∀ (k7_ : Nat) (x1 : Int32) (x2 : Int32) (σ : zg_S), L_X1_readNumber_7 k7_ x1 x2 σ = some (r0, σf) → ∀ (H : Heap) (locs : List Loc) (ls : Array Slot), zz_S D V A s (zg_W XL ad cA σ) (zg_T XL cA) H locs → lv_has ls 3 [(0, .ref (ad 7)), (1, .int x1), (2, .int x2)] → W p l e (headSpec wsX1_readNumber { frames := 2, cells := 0, slots := 0, locals := 46 }).room s m (List.toArray [.ref (ad 7)]) below meth c H locs 0 0 (MQ below (va_Qi (fun r (_ : Unit) => r = r0) (fun _ t => zz_B D A (zg_W XL ad cA σf) (zg_T XL cA) t) A) (List.toArray [.ref (ad 7)]) s 0 0 A) (F0 m 7 ls []) := by
    intro k7_
    induction k7_ with
    | zero =>
        intro x1 x2 σ hf7_ H7_ locs7_ ls7_ Z7_ hl7_
        exact zNone hf7_
    | succ k7_ ih7_ =>
        intro x1 x2 σ hf7_ H7_ locs7_ ls7_ Z7_ hl7_
        replace hf7_ : B_X1_readNumber_7 (L_X1_readNumber_7 k7_) x1 x2 σ = some (r0, σf) := hf7_
        unfold B_X1_readNumber_7 at hf7_
        have b44_ : ∀ (x1 : Int32) (σ : zg_S), B_X1_readNumber_44 x1 σ = some (r0, σf) → ∀ (H : Heap) (locs : List Loc) (ls : Array Slot), zz_S D V A s (zg_W XL ad cA σ) (zg_T XL cA) H locs → lv_has ls 3 [(0, .ref (ad 7)), (1, .int x1)] → W p l e (headSpec wsX1_readNumber { frames := 2, cells := 0, slots := 0, locals := 46 }).room s m (List.toArray [.ref (ad 7)]) below meth c H locs 0 0 (MQ below (va_Qi (fun r (_ : Unit) => r = r0) (fun _ t => zz_B D A (zg_W XL ad cA σf) (zg_T XL cA) t) A) (List.toArray [.ref (ad 7)]) s 0 0 A) (F0 m 44 ls []) := by
          intro x1 σ hf44_ H44_ locs44_ ls44_ Z44_ hl44_
          unfold B_X1_readNumber_44 at hf44_
          refine lv_aload_n hx hb dX1_readNumber_44 rfl (lv_at hl44_ 0 rfl) ?_
          refine zy_get (v := .ref (ad 8)) X Z44_ xL_ok xk_7 rfl rfl (fun w h => List.mem_cons_of_mem _ (List.mem_append_left _ (List.mem_append_right _ h))) 1 rfl (zz_m 5 rfl) rfl dX1_readNumber_45 ?_
          refine lv_iload_n hx hb dX1_readNumber_48 rfl (lv_at hl44_ 1 rfl) ?_
          obtain ⟨r1, σ2, hc3, hf4⟩ := zBd hf44_
          clear hf44_
          refine zy_cv (WS1 := zg_W XL ad cA σ2) (TYS1 := zg_T XL cA) Z44_ (va_runV (As := [.int x1]) (rest := []) X (c_X5_addLeaf l D V ad cA 8 x1 xk_8 σ r1 σ2 hc3 H44_.size) (cwV 1 hts gX1_readNumber_X5_addLeaf rfl rfl rfl ⟨rfl, zh_X5_addLeaf⟩ ⟨Nat.le_of_ble_eq_true rfl, Nat.le_of_ble_eq_true rfl⟩) (zy_pV (ci := 5) Z44_ xL_ok xk_8 rfl rfl) rfl rfl hl44_.1 rfl (lv_room (Nat.le_of_ble_eq_true rfl)) dX1_readNumber_49 ⟨Nat.le_of_ble_eq_true rfl, Nat.le_of_ble_eq_true rfl⟩) (fun H5 lo6 Z7 => ?_)
          clear Z44_ hc3
          refine lv_aload_n hx hb dX1_readNumber_52 rfl (lv_at hl44_ 0 rfl) ?_
          obtain ⟨r8, σ9, hc10, hf11⟩ := zBd hf4
          clear hf4
          refine zy_cv (WS1 := zg_W XL ad cA σ9) (TYS1 := zg_T XL cA) Z7 (va_runV (As := []) (rest := []) X (c_X1_advance l D V ad cA  σ2 r8 σ9 hc10 H5.size) (cwV 0 hts gX1_readNumber_X1_advance rfl rfl rfl ⟨rfl, zh_X1_advance⟩ ⟨Nat.le_of_ble_eq_true rfl, Nat.le_of_ble_eq_true rfl⟩) (zy_pV (ci := 1) Z7 xL_ok xk_7 rfl rfl) rfl rfl hl44_.1 rfl (lv_room (Nat.le_of_ble_eq_true rfl)) dX1_readNumber_53 ⟨Nat.le_of_ble_eq_true rfl, Nat.le_of_ble_eq_true rfl⟩) (fun H12 lo13 Z14 => ?_)
          clear Z7 hc10
          refine lv_iconst (v := 1) hx hb dX1_readNumber_56 (by decide) ?_
          exact zy_zret X hr hlk Z14 (by decide) (zEnd hf11) dX1_readNumber_57
        refine lv_iload_n hx hb dX1_readNumber_7 rfl (lv_at hl7_ 2 rfl) ?_
        refine lv_aload_n hx hb dX1_readNumber_8 rfl (lv_at hl7_ 0 rfl) ?_
        refine zy_get (v := .int (σ 7 5)) X Z7_ xL_ok xk_7 rfl rfl (fun w h => List.mem_cons_of_mem _ (List.mem_append_left _ (List.mem_append_right _ h))) 5 rfl (zz_m 2 rfl) rfl dX1_readNumber_9 ?_
        refine lv_icmp_ge (tgt := 44) hx hb dX1_readNumber_12 (by decide) (fun b15 => ?_) (fun b15 => ?_)
        · have hf16 := zYes hf7_ b15
          clear hf7_
          exact b44_ x1 σ hf16 _ _ _ Z7_ (lv_sub hl7_ [0, 1] rfl)
        · have hf17 := zNot hf7_ b15
          clear hf7_
          refine lv_iload_n hx hb dX1_readNumber_15 rfl (lv_at hl7_ 2 rfl) ?_
          refine lv_aload_n hx hb dX1_readNumber_16 rfl (lv_at hl7_ 0 rfl) ?_
          refine zy_get (v := .int (σ 7 2)) X Z7_ xL_ok xk_7 rfl rfl (fun w h => List.mem_cons_of_mem _ (List.mem_append_left _ (List.mem_append_right _ h))) 2 rfl (zz_m 3 rfl) rfl dX1_readNumber_17 ?_
          refine lv_icmp_ge (tgt := 44) hx hb dX1_readNumber_20 (by decide) (fun b18 => ?_) (fun b18 => ?_)
          · have hf19 := zYes hf17 b18
            clear hf17
            exact b44_ x1 σ hf19 _ _ _ Z7_ (lv_sub hl7_ [0, 1] rfl)
          · have hf20 := zNot hf17 b18
            clear hf17
            refine lv_iload_n hx hb dX1_readNumber_23 rfl (lv_at hl7_ 1 rfl) ?_
            refine lv_bipush (v := 10) hx hb dX1_readNumber_24 (by decide) ?_
            refine lv_imul hx hb dX1_readNumber_26 ?_
            refine lv_aload_n hx hb dX1_readNumber_27 rfl (lv_at hl7_ 0 rfl) ?_
            refine zy_get (v := .ref (ad 6)) X Z7_ xL_ok xk_7 rfl rfl (fun w h => List.mem_cons_of_mem _ (List.mem_append_left _ (List.mem_append_right _ h))) 0 rfl (zz_m 4 rfl) rfl dX1_readNumber_28 ?_
            refine lv_iload_n hx hb dX1_readNumber_31 rfl (lv_at hl7_ 2 rfl) ?_
            obtain ⟨⟨i21, j22⟩, hf23⟩ := zG hf20
            clear hf20
            refine zy_ild X Z7_ xL_ok xk_6 xl_6 i21 dX1_readNumber_32 ?_
            refine lv_iadd hx hb dX1_readNumber_33 ?_
            refine lv_bipush (v := 48) hx hb dX1_readNumber_34 (by decide) ?_
            refine lv_isub hx hb dX1_readNumber_36 ?_
            obtain ⟨y24, ey25, hf26⟩ := zLet hf23
            clear hf23
            refine zz_v (v := y24) ey25.symm ?_
            clear ey25
            refine lv_istore_n (lv' := [(1, .int y24), (0, .ref (ad 7)), (2, .int x2)]) hx hb dX1_readNumber_37 rfl hl7_ (by decide) rfl (fun ls28 hl27 => ?_)
            clear hl7_
            refine lv_iinc (v := (x2 + 1)) (lv' := [(2, .int (x2 + 1)), (1, .int y24), (0, .ref (ad 7))]) hx hb dX1_readNumber_38 hl27 (k := 2) rfl rfl (by decide) rfl (fun ls30 hl29 => ?_)
            clear hl27
            refine lv_goto (tgt := 7) hx hb dX1_readNumber_41 (by decide) ?_
            exact ih7_ y24 (x2 + 1) σ hf26 _ _ _ Z7_ (lv_sub hl29 [2, 1, 0] rfl)
  refine lv_iconst (v := 0) hx hb dX1_readNumber_0 (by decide) ?_
  refine lv_istore_n (lv' := [(1, .int 0), (0, .ref (ad 7))]) hx hb dX1_readNumber_1 rfl hl (by decide) rfl (fun ls32 hl31 => ?_)
  clear hl
  refine lv_aload_n hx hb dX1_readNumber_2 rfl (lv_at hl31 1 rfl) ?_
  refine zy_get (v := .int (σ 7 4)) X Z xL_ok xk_7 rfl rfl (fun w h => List.mem_cons_of_mem _ (List.mem_append_left _ (List.mem_append_right _ h))) 4 rfl (zz_m 1 rfl) rfl dX1_readNumber_3 ?_
  refine lv_istore_n (lv' := [(2, .int (σ 7 4)), (1, .int 0), (0, .ref (ad 7))]) hx hb dX1_readNumber_6 rfl hl31 (by decide) rfl (fun ls34 hl33 => ?_)
  clear hl31
  exact b7_ zfu 0 (σ 7 4) σ hf _ _ _ Z (lv_sub hl33 [2, 1, 0] rfl)
set_option maxHeartbeats 4000000 in
set_option maxRecDepth 100000 in
theorem c_X1_namesOf (l : Launch) (D : va_G) (V : zz_V) (ad : Nat → Nat) (cA : Nat → ClassId) (a0 : Int32) (σ : zg_S) : ∀ sz : Nat, Met l yX1_namesOf wsX1_namesOf ({ frames := 0, cells := 0, slots := 0, locals := 0 }) (va_Pc [.int a0] (zz_C D V (zg_W XL ad cA σ) (zg_T XL cA) sz)) (va_Qr (fun (_ : Unit) => True) (fun _ a t => a = V.1 (zg_nm a0) ∧ zz_B D (va_A (zg_W XL ad cA σ) sz) (zg_W XL ad cA σ) (zg_T XL cA) t) (va_A (zg_W XL ad cA σ) sz)) 0 0 (va_A (zg_W XL ad cA σ) sz) := by
  intro sz
  refine Met.ofW (cc := cX1_namesOf) (maxL := 1) (ret := (some (.object "java/lang/String"))) (by decide) rfl ?_
  intro p e s m args below meth c s₁ B hml hv
  obtain ⟨rfl, hC⟩ := hv
  have hx := B.exec
  have hb := B.bytes
  have hr := B.returns
  have hts := atoms_spec (ws := wsX1_namesOf) B.pre
  have hown : s.vm.findClass RX1 = some m.cls := findClass_of_methodNamed B.named
  have hlk := B.notSynchronized
  have X : CallFix p m c cX1_namesOf 1 s _ wsX1_namesOf RX1 := ⟨hx, hb, hml, hown, hts⟩
  have Z := zz_enter hC
  generalize va_A (zg_W XL ad cA σ) sz = A at Z ⊢
  have hl := lv_entry ([.int a0]) (n := 1) (Nat.le_of_ble_eq_true rfl)
  rw [lg_entry_eq]
  generalize (lg_sl ([.int a0]) ++ List.replicate (1 - (lg_sl ([.int a0])).length) Slot.unset).toArray = ls at hl ⊢
  have hl : lv_has ls 1 [(0, .int a0)] := hl
  refine lv_iload_n hx hb dX1_namesOf_0 rfl (lv_at hl 0 rfl) ?_
  by_cases w1 : a0 = 0
  · refine zz_v w1 ?_
    refine lv_lookup (x := 0) (off := 27) (tgt := 28) hx hb dX1_namesOf_1 (by decide) (by decide) (by decide) ?_
    refine va_ldcS hx hb hown (Z.2.2.2.2.2.2.2.1 (126, "hgp", 3) (zz_m 3 rfl)) dX1_namesOf_28 ?_
    exact zy_aret X hr hlk Z (by rw [zg_nm, if_pos w1]) dX1_namesOf_30
  · by_cases w2 : a0 = 1
    · refine zz_v w2 ?_
      refine lv_lookup (x := 1) (off := 30) (tgt := 31) hx hb dX1_namesOf_1 (by decide) (by decide) (by decide) ?_
      refine va_ldcS hx hb hown (Z.2.2.2.2.2.2.2.1 (128, "ct", 4) (zz_m 4 rfl)) dX1_namesOf_31 ?_
      exact zy_aret X hr hlk Z (by rw [zg_nm, if_neg w1, if_pos w2]) dX1_namesOf_33
    · have n1 := zNe (k := 0) (y := 0) (by decide) w1
      have n2 := zNe (k := 1) (y := 1) (by decide) w2
      refine lv_lookup (off := 33) (tgt := 34) hx hb dX1_namesOf_1 (by decide) (by simp [Op.lookupswitch.offset, n1, n2, Ne.symm n1, Ne.symm n2]) (by decide) ?_
      refine va_ldcS hx hb hown (Z.2.2.2.2.2.2.2.1 (130, "gs", 5) (zz_m 5 rfl)) dX1_namesOf_34 ?_
      exact zy_aret X hr hlk Z (by rw [zg_nm, if_neg w1, if_neg w2]) dX1_namesOf_36
def B_X1_readName_51 (y0 : Int32) (σ : zg_S) : Option (Int32 × zg_S) := (if 0 ≤ y0 then zbd (f_X5_addLeaf 8 ((-1) - y0) σ) (fun (r5 : Int32) (σ6 : zg_S) => zbd (f_X1_advance σ6) (fun (r12 : Int32) (σ13 : zg_S) => some (1, σ13))) else some (0, σ))
def B_X1_readName_50 (σ : zg_S) : Option (Int32 × zg_S) := B_X1_readName_51 (-1) σ
def f_X1_readName  (σ : zg_S) : Option (Int32 × zg_S) := (if ((σ 7 5) - (σ 7 4)) = 1 then (if (σ 7 2) ≤ (σ 7 4) then B_X1_readName_50 σ else (if zin (σ 7 4) 96 = true then zbd (f_J0_indexOf_0f7a4 (zg_nm (σ 8 0)) ((Int32.toUInt32 (σ 6 (Int32.toNatClampNeg (σ 7 4))) % 65536).toInt32) σ) (fun (r32 : Int32) (σ33 : zg_S) => B_X1_readName_51 r32 σ33) else none)) else B_X1_readName_50 σ)
set_option maxHeartbeats 4000000 in
set_option maxRecDepth 100000 in
theorem c_X1_readName (l : Launch) (D : va_G) (V : zz_V) (ad : Nat → Nat) (cA : Nat → ClassId)   (σ : zg_S) (r0 : Int32) (σf : zg_S) (hf : f_X1_readName  σ = some (r0, σf)) : zM_I l yX1_readName wsX1_readName 4 91 D V XL ad cA [.ref (ad 7)] σ r0 σf := by
  intro sz
  refine Met.ofW (cc := cX1_readName) (maxL := 2) (ret := (some .boolean)) (by decide) rfl ?_
  intro p e s m args below meth c s₁ B hml hv
  obtain ⟨rfl, hC⟩ := hv
  have hx := B.exec
  have hb := B.bytes
  have hr := B.returns
  have hts := atoms_spec (ws := wsX1_readName) B.pre
  have hown : s.vm.findClass RX1 = some m.cls := findClass_of_methodNamed B.named
  have hlk := B.notSynchronized
  have X : CallFix p m c cX1_readName 2 s _ wsX1_readName RX1 := ⟨hx, hb, hml, hown, hts⟩
  have Z := zz_enter hC
  generalize va_A (zg_W XL ad cA σ) sz = A at Z ⊢
  have hl := lv_entry ([.ref (ad 7)]) (n := 2) (Nat.le_of_ble_eq_true rfl)
  rw [lg_entry_eq]
  generalize (lg_sl ([.ref (ad 7)]) ++ List.replicate (2 - (lg_sl ([.ref (ad 7)])).length) Slot.unset).toArray = ls at hl ⊢
  have hl : lv_has ls 2 [(0, .ref (ad 7))] := hl
  unfold f_X1_readName at hf
  have b51_ : ∀ (y0 : Int32) (σ : zg_S), B_X1_readName_51 y0 σ = some (r0, σf) → ∀ (H : Heap) (locs : List Loc) (ls : Array Slot), zz_S D V A s (zg_W XL ad cA σ) (zg_T XL cA) H locs → lv_has ls 2 [(0, .ref (ad 7))] → W p l e (headSpec wsX1_readName { frames := 4, cells := 0, slots := 0, locals := 91 }).room s m (List.toArray [.ref (ad 7)]) below meth c H locs 0 0 (MQ below (va_Qi (fun r (_ : Unit) => r = r0) (fun _ t => zz_B D A (zg_W XL ad cA σf) (zg_T XL cA) t) A) (List.toArray [.ref (ad 7)]) s 0 0 A) (F0 m 51 ls [.int y0]) := by
    intro y0 σ hf51_ H51_ locs51_ ls51_ Z51_ hl51_
    unfold B_X1_readName_51 at hf51_
    refine lv_istore_n (lv' := [(1, .int y0), (0, .ref (ad 7))]) hx hb dX1_readName_51 rfl hl51_ (by decide) rfl (fun ls2 hl1 => ?_)
    clear hl51_
    refine lv_iload_n hx hb dX1_readName_52 rfl (lv_at hl1 0 rfl) ?_
    refine lv_if_ge (tgt := 58) hx hb dX1_readName_53 (by decide) (fun b3 => ?_) (fun b3 => ?_)
    · have hf4 := zYes hf51_ b3
      clear hf51_
      refine lv_aload_n hx hb dX1_readName_58 rfl (lv_at hl1 1 rfl) ?_
      refine zy_get (v := .ref (ad 8)) X Z51_ xL_ok xk_7 rfl rfl (fun w h => List.mem_cons_of_mem _ (List.mem_append_left _ (List.mem_append_right _ h))) 1 rfl (zz_m 4 rfl) rfl dX1_readName_59 ?_
      refine lv_iconst (v := (-1)) hx hb dX1_readName_62 (by decide) ?_
      refine lv_iload_n hx hb dX1_readName_63 rfl (lv_at hl1 0 rfl) ?_
      refine lv_isub hx hb dX1_readName_64 ?_
      obtain ⟨r5, σ6, hc7, hf8⟩ := zBd hf4
      clear hf4
      refine zy_cv (WS1 := zg_W XL ad cA σ6) (TYS1 := zg_T XL cA) Z51_ (va_runV (As := [.int ((-1) - y0)]) (rest := []) X (c_X5_addLeaf l D V ad cA 8 ((-1) - y0) xk_8 σ r5 σ6 hc7 H51_.size) (cwV 1 hts gX1_readName_X5_addLeaf rfl rfl rfl ⟨rfl, zh_X5_addLeaf⟩ ⟨Nat.le_of_ble_eq_true rfl, Nat.le_of_ble_eq_true rfl⟩) (zy_pV (ci := 5) Z51_ xL_ok xk_8 rfl rfl) rfl rfl hl1.1 rfl (lv_room (Nat.le_of_ble_eq_true rfl)) dX1_readName_65 ⟨Nat.le_of_ble_eq_true rfl, Nat.le_of_ble_eq_true rfl⟩) (fun H9 lo10 Z11 => ?_)
      clear Z51_ hc7
      refine lv_aload_n hx hb dX1_readName_68 rfl (lv_at hl1 1 rfl) ?_
      obtain ⟨r12, σ13, hc14, hf15⟩ := zBd hf8
      clear hf8
      refine zy_cv (WS1 := zg_W XL ad cA σ13) (TYS1 := zg_T XL cA) Z11 (va_runV (As := []) (rest := []) X (c_X1_advance l D V ad cA  σ6 r12 σ13 hc14 H9.size) (cwV 0 hts gX1_readName_X1_advance rfl rfl rfl ⟨rfl, zh_X1_advance⟩ ⟨Nat.le_of_ble_eq_true rfl, Nat.le_of_ble_eq_true rfl⟩) (zy_pV (ci := 1) Z11 xL_ok xk_7 rfl rfl) rfl rfl hl1.1 rfl (lv_room (Nat.le_of_ble_eq_true rfl)) dX1_readName_69 ⟨Nat.le_of_ble_eq_true rfl, Nat.le_of_ble_eq_true rfl⟩) (fun H16 lo17 Z18 => ?_)
      clear Z11 hc14
      refine lv_iconst (v := 1) hx hb dX1_readName_72 (by decide) ?_
      exact zy_zret X hr hlk Z18 (by decide) (zEnd hf15) dX1_readName_73
    · have hf19 := zNot hf51_ b3
      clear hf51_
      refine lv_iconst (v := 0) hx hb dX1_readName_56 (by decide) ?_
      exact zy_zret X hr hlk Z51_ (by decide) (zEnd hf19) dX1_readName_57
  have b50_ : ∀ (σ : zg_S), B_X1_readName_50  σ = some (r0, σf) → ∀ (H : Heap) (locs : List Loc) (ls : Array Slot), zz_S D V A s (zg_W XL ad cA σ) (zg_T XL cA) H locs → lv_has ls 2 [(0, .ref (ad 7))] → W p l e (headSpec wsX1_readName { frames := 4, cells := 0, slots := 0, locals := 91 }).room s m (List.toArray [.ref (ad 7)]) below meth c H locs 0 0 (MQ below (va_Qi (fun r (_ : Unit) => r = r0) (fun _ t => zz_B D A (zg_W XL ad cA σf) (zg_T XL cA) t) A) (List.toArray [.ref (ad 7)]) s 0 0 A) (F0 m 50 ls []) := by
    intro σ hf50_ H50_ locs50_ ls50_ Z50_ hl50_
    unfold B_X1_readName_50 at hf50_
    refine lv_iconst (v := (-1)) hx hb dX1_readName_50 (by decide) ?_
    exact b51_ (-1) σ hf50_ _ _ _ Z50_ (lv_sub hl50_ [0] rfl)
  refine lv_aload_n hx hb dX1_readName_0 rfl (lv_at hl 0 rfl) ?_
  refine zy_get (v := .int (σ 7 5)) X Z xL_ok xk_7 rfl rfl (fun w h => List.mem_cons_of_mem _ (List.mem_append_left _ (List.mem_append_right _ h))) 5 rfl (zz_m 1 rfl) rfl dX1_readName_1 ?_
  refine lv_aload_n hx hb dX1_readName_4 rfl (lv_at hl 0 rfl) ?_
  refine zy_get (v := .int (σ 7 4)) X Z xL_ok xk_7 rfl rfl (fun w h => List.mem_cons_of_mem _ (List.mem_append_left _ (List.mem_append_right _ h))) 4 rfl (zz_m 2 rfl) rfl dX1_readName_5 ?_
  refine lv_isub hx hb dX1_readName_8 ?_
  refine lv_iconst (v := 1) hx hb dX1_readName_9 (by decide) ?_
  refine lv_icmp_ne (tgt := 50) hx hb dX1_readName_10 (by decide) (fun b20 => ?_) (fun b20 => ?_)
  · have hf21 := zNot hf b20
    clear hf
    exact b50_ σ hf21 _ _ _ Z (lv_sub hl [0] rfl)
  · have hf22 := zYes hf b20
    clear hf
    refine lv_aload_n hx hb dX1_readName_13 rfl (lv_at hl 0 rfl) ?_
    refine zy_get (v := .int (σ 7 4)) X Z xL_ok xk_7 rfl rfl (fun w h => List.mem_cons_of_mem _ (List.mem_append_left _ (List.mem_append_right _ h))) 4 rfl (zz_m 2 rfl) rfl dX1_readName_14 ?_
    refine lv_aload_n hx hb dX1_readName_17 rfl (lv_at hl 0 rfl) ?_
    refine zy_get (v := .int (σ 7 2)) X Z xL_ok xk_7 rfl rfl (fun w h => List.mem_cons_of_mem _ (List.mem_append_left _ (List.mem_append_right _ h))) 2 rfl (zz_m 3 rfl) rfl dX1_readName_18 ?_
    refine lv_icmp_ge (tgt := 50) hx hb dX1_readName_21 (by decide) (fun b23 => ?_) (fun b23 => ?_)
    · have hf24 := zYes hf22 b23
      clear hf22
      exact b50_ σ hf24 _ _ _ Z (lv_sub hl [0] rfl)
    · have hf25 := zNot hf22 b23
      clear hf22
      refine lv_aload_n hx hb dX1_readName_24 rfl (lv_at hl 0 rfl) ?_
      refine zy_get (v := .ref (ad 8)) X Z xL_ok xk_7 rfl rfl (fun w h => List.mem_cons_of_mem _ (List.mem_append_left _ (List.mem_append_right _ h))) 1 rfl (zz_m 4 rfl) rfl dX1_readName_25 ?_
      refine zy_get (v := .int (σ 8 0)) X Z xL_ok xk_8 rfl rfl (fun w h => List.mem_cons_of_mem _ (List.mem_append_right _ h)) 0 rfl (zz_m 5 rfl) rfl dX1_readName_28 ?_
      refine zy_cr (r0 := V.1 (zg_nm (σ 8 0))) (WS1 := zg_W XL ad cA σ) (TYS1 := zg_T XL cA) Z (va_runS (As := [.int (σ 8 0)]) (rest := []) X (c_X1_namesOf l D V ad cA (σ 8 0) σ s.heap.size) (va_cwS 1 hts gX1_readName_X1_namesOf rfl rfl rfl zh_X1_namesOf ⟨Nat.le_of_ble_eq_true rfl, Nat.le_of_ble_eq_true rfl⟩) (zz_pS Z) rfl rfl hl.1 rfl (lv_room (Nat.le_of_ble_eq_true rfl)) dX1_readName_31 ⟨Nat.le_of_ble_eq_true rfl, Nat.le_of_ble_eq_true rfl⟩) (fun H26 lo27 Z28 => ?_)
      clear Z
      refine lv_aload_n hx hb dX1_readName_34 rfl (lv_at hl 0 rfl) ?_
      refine zy_get (v := .ref (ad 6)) X Z28 xL_ok xk_7 rfl rfl (fun w h => List.mem_cons_of_mem _ (List.mem_append_left _ (List.mem_append_right _ h))) 0 rfl (zz_m 6 rfl) rfl dX1_readName_35 ?_
      refine lv_aload_n hx hb dX1_readName_38 rfl (lv_at hl 0 rfl) ?_
      refine zy_get (v := .int (σ 7 4)) X Z28 xL_ok xk_7 rfl rfl (fun w h => List.mem_cons_of_mem _ (List.mem_append_left _ (List.mem_append_right _ h))) 4 rfl (zz_m 2 rfl) rfl dX1_readName_39 ?_
      obtain ⟨⟨i29, j30⟩, hf31⟩ := zG hf25
      clear hf25
      refine zy_ild X Z28 xL_ok xk_6 xl_6 i29 dX1_readName_42 ?_
      refine lv_i2c (v := (Int32.toUInt32 (σ 6 (Int32.toNatClampNeg (σ 7 4))) % 65536).toInt32) hx hb dX1_readName_43 rfl ?_
      obtain ⟨r32, σ33, hc34, hf35⟩ := zBd hf31
      clear hf31
      refine zy_ci (r0 := r32) (WS1 := zg_W XL ad cA σ33) (TYS1 := zg_T XL cA) Z28 (va_runV (As := [.int ((Int32.toUInt32 (σ 6 (Int32.toNatClampNeg (σ 7 4))) % 65536).toInt32)]) (rest := []) X (c_J0_indexOf_0f7a4 l D V ad cA (zg_nm (σ 8 0)) ((Int32.toUInt32 (σ 6 (Int32.toNatClampNeg (σ 7 4))) % 65536).toInt32) (zg_nm_lt (σ 8 0)) σ r32 σ33 hc34 H26.size) (cwV 1 hts gX1_readName_J0_indexOf_0f7a4 rfl rfl rfl ⟨rfl, zh_J0_indexOf_0f7a4⟩ ⟨Nat.le_of_ble_eq_true rfl, Nat.le_of_ble_eq_true rfl⟩) (zy_pVs Z28 (zg_nm_lt (σ 8 0))) rfl rfl hl.1 rfl (lv_room (Nat.le_of_ble_eq_true rfl)) dX1_readName_44 ⟨Nat.le_of_ble_eq_true rfl, Nat.le_of_ble_eq_true rfl⟩) (fun H36 lo37 Z38 => ?_)
      clear Z28 hc34
      refine lv_goto (tgt := 51) hx hb dX1_readName_47 (by decide) ?_
      exact b51_ r32 σ33 hf35 _ _ _ Z38 (lv_sub hl [0] rfl)
def f_X1_signHere  (σ : zg_S) : Option (Int32 × zg_S) := (if (σ 7 3) = 3 then zbd (f_X6_within (σ 7 4) 0 95 σ) (fun (r4 : Int32) (σ5 : zg_S) => (if r4 = 0 then some ((-1000000005), σ5) else (if zin (σ5 7 4) 96 = true then some (σ5 6 (Int32.toNatClampNeg (σ5 7 4)), σ5) else none))) else some ((-1000000005), σ))
set_option maxHeartbeats 4000000 in
set_option maxRecDepth 100000 in
theorem c_X1_signHere (l : Launch) (D : va_G) (V : zz_V) (ad : Nat → Nat) (cA : Nat → ClassId)   (σ : zg_S) (r0 : Int32) (σf : zg_S) (hf : f_X1_signHere  σ = some (r0, σf)) : zM_I l yX1_signHere wsX1_signHere 1 22 D V XL ad cA [.ref (ad 7)] σ r0 σf := by
  intro sz
  refine Met.ofW (cc := cX1_signHere) (maxL := 1) (ret := (some .int)) (by decide) rfl ?_
  intro p e s m args below meth c s₁ B hml hv
  obtain ⟨rfl, hC⟩ := hv
  have hx := B.exec
  have hb := B.bytes
  have hr := B.returns
  have hts := atoms_spec (ws := wsX1_signHere) B.pre
  have hown : s.vm.findClass RX1 = some m.cls := findClass_of_methodNamed B.named
  have hlk := B.notSynchronized
  have X : CallFix p m c cX1_signHere 1 s _ wsX1_signHere RX1 := ⟨hx, hb, hml, hown, hts⟩
  have Z := zz_enter hC
  generalize va_A (zg_W XL ad cA σ) sz = A at Z ⊢
  have hl := lv_entry ([.ref (ad 7)]) (n := 1) (Nat.le_of_ble_eq_true rfl)
  rw [lg_entry_eq]
  generalize (lg_sl ([.ref (ad 7)]) ++ List.replicate (1 - (lg_sl ([.ref (ad 7)])).length) Slot.unset).toArray = ls at hl ⊢
  have hl : lv_has ls 1 [(0, .ref (ad 7))] := hl
  unfold f_X1_signHere at hf
  refine lv_aload_n hx hb dX1_signHere_0 rfl (lv_at hl 0 rfl) ?_
  refine zy_get (v := .int (σ 7 3)) X Z xL_ok xk_7 rfl rfl (fun w h => List.mem_cons_of_mem _ (List.mem_append_right _ h)) 3 rfl (zz_m 1 rfl) rfl dX1_signHere_1 ?_
  refine lv_iconst (v := 3) hx hb dX1_signHere_4 (by decide) ?_
  refine lv_icmp_ne (tgt := 33) hx hb dX1_signHere_5 (by decide) (fun b1 => ?_) (fun b1 => ?_)
  · have hf2 := zNot hf b1
    clear hf
    refine lv_ldc (v := (-1000000005)) hx hb hown (hts _ (zz_m 4 rfl)) dX1_signHere_33 ?_
    exact zy_iret X hr hlk Z (zEnd hf2) dX1_signHere_35
  · have hf3 := zYes hf b1
    clear hf
    refine lv_aload_n hx hb dX1_signHere_8 rfl (lv_at hl 0 rfl) ?_
    refine zy_get (v := .int (σ 7 4)) X Z xL_ok xk_7 rfl rfl (fun w h => List.mem_cons_of_mem _ (List.mem_append_right _ h)) 4 rfl (zz_m 2 rfl) rfl dX1_signHere_9 ?_
    refine lv_iconst (v := 0) hx hb dX1_signHere_12 (by decide) ?_
    refine lv_bipush (v := 95) hx hb dX1_signHere_13 (by decide) ?_
    obtain ⟨r4, σ5, hc6, hf7⟩ := zBd hf3
    clear hf3
    refine zy_ci (r0 := r4) (WS1 := zg_W XL ad cA σ5) (TYS1 := zg_T XL cA) Z (va_runSN (As := [.int (σ 7 4), .int 0, .int 95]) (rest := []) X (c_X6_within l D V ad cA (σ 7 4) 0 95 σ r4 σ5 hc6 s.heap.size) ⟨va_cnB 3 hts gX1_signHere_X6_within_n84 rfl rfl rfl (zz_nw (q := (RX1, 84, yX6_within, RX6)) Z.2.2.2.2.2 8 rfl) (hts _ (zz_m 6 rfl)) zh_X6_within ⟨Nat.le_of_ble_eq_true rfl, Nat.le_of_ble_eq_true rfl⟩, hts _ (zz_m 5 rfl), trivial⟩ (zz_pS Z) rfl rfl hl.1 rfl (lv_room (Nat.le_of_ble_eq_true rfl)) dX1_signHere_15 ⟨Nat.le_of_ble_eq_true rfl, Nat.le_of_ble_eq_true rfl⟩) (fun H8 lo9 Z10 => ?_)
    clear Z hc6
    refine lv_if_eq (tgt := 33) hx hb dX1_signHere_18 (by decide) (fun b11 => ?_) (fun b11 => ?_)
    · have hf12 := zYes hf7 b11
      clear hf7
      refine lv_ldc (v := (-1000000005)) hx hb hown (hts _ (zz_m 4 rfl)) dX1_signHere_33 ?_
      exact zy_iret X hr hlk Z10 (zEnd hf12) dX1_signHere_35
    · have hf13 := zNot hf7 b11
      clear hf7
      refine lv_aload_n hx hb dX1_signHere_21 rfl (lv_at hl 0 rfl) ?_
      refine zy_get (v := .ref (ad 6)) X Z10 xL_ok xk_7 rfl rfl (fun w h => List.mem_cons_of_mem _ (List.mem_append_right _ h)) 0 rfl (zz_m 3 rfl) rfl dX1_signHere_22 ?_
      refine lv_aload_n hx hb dX1_signHere_25 rfl (lv_at hl 0 rfl) ?_
      refine zy_get (v := .int (σ5 7 4)) X Z10 xL_ok xk_7 rfl rfl (fun w h => List.mem_cons_of_mem _ (List.mem_append_right _ h)) 4 rfl (zz_m 2 rfl) rfl dX1_signHere_26 ?_
      obtain ⟨⟨i14, j15⟩, hf16⟩ := zG hf13
      clear hf13
      refine zy_ild X Z10 xL_ok xk_6 xl_6 i14 dX1_signHere_29 ?_
      refine lv_goto (tgt := 35) hx hb dX1_signHere_30 (by decide) ?_
      exact zy_iret X hr hlk Z10 (zEnd hf16) dX1_signHere_35
def B_X1_readLevel_24 (rec : Nat → Int32 → zg_S → Option (Int32 × zg_S)) (a1 : Int32) (rec24_ : Int32 → zg_S → Option (Int32 × zg_S)) (x2 : Int32) (σ : zg_S) : Option (Int32 × zg_S) := (if 96 ≤ x2 then some (1, σ) else zbd (f_X1_signHere σ) (fun (r4 : Int32) (σ5 : zg_S) => zbd (f_X1_levelOf r4 σ5) (fun (r13 : Int32) (σ14 : zg_S) => (if r13 = a1 then zbd (f_X1_advance σ14) (fun (r22 : Int32) (σ23 : zg_S) => zbd (rec 0 (a1 + 1) σ23) (fun (r29 : Int32) (σ30 : zg_S) => (if r29 = 0 then some (0, σ30) else zbd (f_X5_addStep 8 ((-1000) - r4) σ30) (fun (r38 : Int32) (σ39 : zg_S) => (if a1 = 2 then some (1, σ39) else rec24_ (x2 + 1) σ39))))) else some (1, σ14)))))
def L_X1_readLevel_24 (rec : Nat → Int32 → zg_S → Option (Int32 × zg_S)) (a1 : Int32) : Nat → Int32 → zg_S → Option (Int32 × zg_S) := zfix (fun _ _ => none) (B_X1_readLevel_24 rec a1)
def f_X1_readLevel (rec : Nat → Int32 → zg_S → Option (Int32 × zg_S)) (a1 : Int32) (σ : zg_S) : Option (Int32 × zg_S) := (if a1 ≤ 4 then zbd (rec 0 (a1 + 1) σ) (fun (r54 : Int32) (σ55 : zg_S) => (if r54 = 0 then some (0, σ55) else L_X1_readLevel_24 rec a1 zfu 0 σ55)) else zbd (rec 1 0 σ) (fun (r67 : Int32) (σ68 : zg_S) => (if r67 = 0 ∨ r67 = 1 then some (r67, σ68) else none)))

def f_X1_readPiece (rec : Nat → Int32 → zg_S → Option (Int32 × zg_S))  (σ : zg_S) : Option (Int32 × zg_S) := (if σ 7 3 = 1 then zbd (f_X1_readName σ) (fun (r3 : Int32) (σ4 : zg_S) => (if r3 = 0 ∨ r3 = 1 then some (r3, σ4) else none)) else (if σ 7 3 = 2 then zbd (f_X1_readNumber σ) (fun (r15 : Int32) (σ16 : zg_S) => (if r15 = 0 ∨ r15 = 1 then some (r15, σ16) else none)) else zbd (f_X1_signHere σ) (fun (r27 : Int32) (σ28 : zg_S) => (if r27 = 33 then zbd (rec 2 0 σ28) (fun (r36 : Int32) (σ37 : zg_S) => (if r36 = 0 ∨ r36 = 1 then some (r36, σ37) else none)) else (if r27 = 40 then zbd (rec 3 0 σ28) (fun (r48 : Int32) (σ49 : zg_S) => (if r48 = 0 ∨ r48 = 1 then some (r48, σ49) else none)) else some (0, σ28))))))

def f_X1_readNot (rec : Nat → Int32 → zg_S → Option (Int32 × zg_S))  (σ : zg_S) : Option (Int32 × zg_S) := (if (σ 7 7) < 8 then zlet (zg_up σ 7 7 ((σ 7 7) + 1)) (fun (σ3 : zg_S) => zbd (f_X1_advance σ3) (fun (r9 : Int32) (σ10 : zg_S) => zbd (rec 1 0 σ10) (fun (r16 : Int32) (σ17 : zg_S) => (if r16 = 0 then some (0, σ17) else zlet (zg_up σ17 7 7 ((σ17 7 7) - 1)) (fun (σ25 : zg_S) => zbd (f_X5_addStep 8 (-1033) σ25) (fun (r31 : Int32) (σ32 : zg_S) => some (1, σ32))))))) else some (0, σ))

def f_X1_readBracket (rec : Nat → Int32 → zg_S → Option (Int32 × zg_S))  (σ : zg_S) : Option (Int32 × zg_S) := (if (σ 7 6) < 8 then zlet (zg_up σ 7 6 ((σ 7 6) + 1)) (fun (σ3 : zg_S) => zbd (f_X1_advance σ3) (fun (r9 : Int32) (σ10 : zg_S) => zbd (rec 0 0 σ10) (fun (r16 : Int32) (σ17 : zg_S) => (if r16 = 0 then some (0, σ17) else zbd (f_X1_signHere σ17) (fun (r26 : Int32) (σ27 : zg_S) => (if r26 = 41 then zlet (zg_up σ27 7 6 ((σ27 7 6) - 1)) (fun (σ35 : zg_S) => zbd (f_X1_advance σ35) (fun (r41 : Int32) (σ42 : zg_S) => some (1, σ42))) else some (0, σ27))))))) else some (0, σ))

def H_rd (rec : Nat → Int32 → zg_S → Option (Int32 × zg_S)) : Nat → Int32 → zg_S → Option (Int32 × zg_S) := fun tag z0 σ => match tag with
  | 0 => f_X1_readLevel rec z0 σ
  | 1 => f_X1_readPiece rec σ
  | 2 => f_X1_readNot rec σ
  | _ => f_X1_readBracket rec σ

def G_rd : Nat → Nat → Int32 → zg_S → Option (Int32 × zg_S) := zfix (fun _ _ _ => none) H_rd

def zG_rd (l : Launch) (D : va_G) (V : zz_V) (ad : Nat → Nat) (cA : Nat → ClassId) (d : Nat) : Prop := (∀ (z0 : Int32) (σ : zg_S) (r0 : Int32) (σf : zg_S), G_rd d 0 z0 σ = some (r0, σf) → zM_I l yX1_readLevel wsX1_readLevel (5 + d) (112 + 23 * d) D V XL ad cA [.ref (ad 7), .int z0] σ r0 σf) ∧ (∀ (z0 : Int32) (σ : zg_S) (r0 : Int32) (σf : zg_S), G_rd d 1 z0 σ = some (r0, σf) → zM_I l yX1_readPiece wsX1_readPiece (5 + d) (112 + 23 * d) D V XL ad cA [.ref (ad 7)] σ r0 σf) ∧ (∀ (z0 : Int32) (σ : zg_S) (r0 : Int32) (σf : zg_S), G_rd d 2 z0 σ = some (r0, σf) → zM_I l yX1_readNot wsX1_readNot (5 + d) (112 + 23 * d) D V XL ad cA [.ref (ad 7)] σ r0 σf) ∧ (∀ (z0 : Int32) (σ : zg_S) (r0 : Int32) (σf : zg_S), G_rd d 3 z0 σ = some (r0, σf) → zM_I l yX1_readBracket wsX1_readBracket (5 + d) (112 + 23 * d) D V XL ad cA [.ref (ad 7)] σ r0 σf)

set_option maxHeartbeats 4000000 in
set_option maxRecDepth 100000 in
theorem c_X1_readLevel_s (l : Launch) (D : va_G) (V : zz_V) (ad : Nat → Nat) (cA : Nat → ClassId) (d : Nat) (ih : zG_rd l D V ad cA d) (a1 : Int32) (σ : zg_S) (r0 : Int32) (σf : zg_S) (hf : f_X1_readLevel (G_rd d) a1 σ = some (r0, σf)) : zM_I l yX1_readLevel wsX1_readLevel (5 + (d + 1)) (112 + 23 * (d + 1)) D V XL ad cA [.ref (ad 7), .int a1] σ r0 σf := by
  intro sz
  refine Met.ofW (cc := cX1_readLevel) (maxL := 4) (ret := (some .boolean)) (by decide) rfl ?_
  intro p e s m args below meth c s₁ B hml hv
  obtain ⟨rfl, hC⟩ := hv
  have hx := B.exec
  have hb := B.bytes
  have hr := B.returns
  have hts := atoms_spec (ws := wsX1_readLevel) B.pre
  have hown : s.vm.findClass RX1 = some m.cls := findClass_of_methodNamed B.named
  have hlk := B.notSynchronized
  have X : CallFix p m c cX1_readLevel 4 s _ wsX1_readLevel RX1 := ⟨hx, hb, hml, hown, hts⟩
  have Z := zz_enter hC
  generalize va_A (zg_W XL ad cA σ) sz = A at Z ⊢
  have hl := lv_entry ([.ref (ad 7), .int a1]) (n := 4) (Nat.le_of_ble_eq_true rfl)
  rw [lg_entry_eq]
  generalize (lg_sl ([.ref (ad 7), .int a1]) ++ List.replicate (4 - (lg_sl ([.ref (ad 7), .int a1])).length) Slot.unset).toArray = ls at hl ⊢
  have hl : lv_has ls 4 [(0, .ref (ad 7)), (1, .int a1)] := hl
  unfold f_X1_readLevel at hf
  have b24_ : ∀ (k24_ : Nat) (x2 : Int32) (σ : zg_S), L_X1_readLevel_24 (G_rd d) a1 k24_ x2 σ = some (r0, σf) → ∀ (H : Heap) (locs : List Loc) (ls : Array Slot), zz_S D V A s (zg_W XL ad cA σ) (zg_T XL cA) H locs → lv_has ls 4 [(0, .ref (ad 7)), (1, .int a1), (2, .int x2)] → W p l e (headSpec wsX1_readLevel { frames := (5 + (d + 1)), cells := 0, slots := 0, locals := (112 + 23 * (d + 1)) }).room s m (List.toArray [.ref (ad 7), .int a1]) below meth c H locs 0 0 (MQ below (va_Qi (fun r (_ : Unit) => r = r0) (fun _ t => zz_B D A (zg_W XL ad cA σf) (zg_T XL cA) t) A) (List.toArray [.ref (ad 7), .int a1]) s 0 0 A) (F0 m 24 ls []) := by
    intro k24_
    induction k24_ with
    | zero =>
        intro x2 σ hf24_ H24_ locs24_ ls24_ Z24_ hl24_
        exact zNone hf24_
    | succ k24_ ih24_ =>
        intro x2 σ hf24_ H24_ locs24_ ls24_ Z24_ hl24_
        replace hf24_ : B_X1_readLevel_24 (G_rd d) a1 (L_X1_readLevel_24 (G_rd d) a1 k24_) x2 σ = some (r0, σf) := hf24_
        unfold B_X1_readLevel_24 at hf24_
        refine lv_iload_n hx hb dX1_readLevel_24 rfl (lv_at hl24_ 2 rfl) ?_
        refine lv_bipush (v := 96) hx hb dX1_readLevel_25 (by decide) ?_
        refine lv_icmp_ge (tgt := 86) hx hb dX1_readLevel_27 (by decide) (fun b1 => ?_) (fun b1 => ?_)
        · have hf2 := zYes hf24_ b1
          clear hf24_
          refine lv_iconst (v := 1) hx hb dX1_readLevel_86 (by decide) ?_
          exact zy_zret X hr hlk Z24_ (by decide) (zEnd hf2) dX1_readLevel_87
        · have hf3 := zNot hf24_ b1
          clear hf24_
          refine lv_aload_n hx hb dX1_readLevel_30 rfl (lv_at hl24_ 0 rfl) ?_
          obtain ⟨r4, σ5, hc6, hf7⟩ := zBd hf3
          clear hf3
          refine zy_ci (r0 := r4) (WS1 := zg_W XL ad cA σ5) (TYS1 := zg_T XL cA) Z24_ (va_runV (As := []) (rest := []) X (c_X1_signHere l D V ad cA  σ r4 σ5 hc6 H24_.size) (cwV 0 hts gX1_readLevel_X1_signHere rfl rfl rfl ⟨rfl, zh_X1_signHere⟩ ⟨show 1 + 1 ≤ 5 + (d + 1) by omega, show 8 + (1 + 11) + 22 ≤ 112 + 23 * (d + 1) by omega⟩) (zy_pV (ci := 1) Z24_ xL_ok xk_7 rfl rfl) rfl rfl hl24_.1 rfl (lv_room (Nat.le_of_ble_eq_true rfl)) dX1_readLevel_31 ⟨Nat.le_of_ble_eq_true rfl, Nat.le_of_ble_eq_true rfl⟩) (fun H8 lo9 Z10 => ?_)
          clear Z24_ hc6
          refine lv_istore_n (lv' := [(3, .int r4), (0, .ref (ad 7)), (1, .int a1), (2, .int x2)]) hx hb dX1_readLevel_34 rfl hl24_ (by decide) rfl (fun ls12 hl11 => ?_)
          clear hl24_
          refine lv_iload_n hx hb dX1_readLevel_35 rfl (lv_at hl11 0 rfl) ?_
          obtain ⟨r13, σ14, hc15, hf16⟩ := zBd hf7
          clear hf7
          refine zy_ci (r0 := r13) (WS1 := zg_W XL ad cA σ14) (TYS1 := zg_T XL cA) Z10 (va_runS (As := [.int r4]) (rest := []) X (c_X1_levelOf l D V ad cA r4 σ5 r13 σ14 hc15 H8.size) (va_cwS 1 hts gX1_readLevel_X1_levelOf rfl rfl rfl zh_X1_levelOf ⟨show 0 + 1 ≤ 5 + (d + 1) by omega, show 8 + (1 + 11) + 0 ≤ 112 + 23 * (d + 1) by omega⟩) (zz_pS Z10) rfl rfl hl11.1 rfl (lv_room (Nat.le_of_ble_eq_true rfl)) dX1_readLevel_36 ⟨Nat.le_of_ble_eq_true rfl, Nat.le_of_ble_eq_true rfl⟩) (fun H17 lo18 Z19 => ?_)
          clear Z10 hc15
          refine lv_iload_n hx hb dX1_readLevel_39 rfl (lv_at hl11 2 rfl) ?_
          refine lv_icmp_eq (tgt := 45) hx hb dX1_readLevel_40 (by decide) (fun b20 => ?_) (fun b20 => ?_)
          · have hf21 := zYes hf16 b20
            clear hf16
            refine lv_aload_n hx hb dX1_readLevel_45 rfl (lv_at hl11 1 rfl) ?_
            obtain ⟨r22, σ23, hc24, hf25⟩ := zBd hf21
            clear hf21
            refine zy_cv (WS1 := zg_W XL ad cA σ23) (TYS1 := zg_T XL cA) Z19 (va_runV (As := []) (rest := []) X (c_X1_advance l D V ad cA  σ14 r22 σ23 hc24 H17.size) (cwV 0 hts gX1_readLevel_X1_advance rfl rfl rfl ⟨rfl, zh_X1_advance⟩ ⟨show 1 + 1 ≤ 5 + (d + 1) by omega, show 8 + (5 + 11) + 22 ≤ 112 + 23 * (d + 1) by omega⟩) (zy_pV (ci := 1) Z19 xL_ok xk_7 rfl rfl) rfl rfl hl11.1 rfl (lv_room (Nat.le_of_ble_eq_true rfl)) dX1_readLevel_46 ⟨Nat.le_of_ble_eq_true rfl, Nat.le_of_ble_eq_true rfl⟩) (fun H26 lo27 Z28 => ?_)
            clear Z19 hc24
            refine lv_aload_n hx hb dX1_readLevel_49 rfl (lv_at hl11 1 rfl) ?_
            refine lv_iload_n hx hb dX1_readLevel_50 rfl (lv_at hl11 2 rfl) ?_
            refine lv_iconst (v := 1) hx hb dX1_readLevel_51 (by decide) ?_
            refine lv_iadd hx hb dX1_readLevel_52 ?_
            obtain ⟨r29, σ30, hc31, hf32⟩ := zBd hf25
            clear hf25
            refine zy_ci (r0 := r29) (WS1 := zg_W XL ad cA σ30) (TYS1 := zg_T XL cA) Z28 (va_runV (As := [.int (a1 + 1)]) (rest := []) X ((ih.1) (a1 + 1) σ23 r29 σ30 hc31 H26.size) (cwV 1 hts gX1_readLevel_X1_readLevel rfl rfl rfl ⟨rfl, zh_X1_readLevel⟩ ⟨show 5 + d + 1 ≤ 5 + (d + 1) by omega, show 8 + (4 + 11) + (112 + 23 * d) ≤ 112 + 23 * (d + 1) by omega⟩) (zy_pV (ci := 1) Z28 xL_ok xk_7 rfl rfl) rfl rfl hl11.1 rfl (lv_room (Nat.le_of_ble_eq_true rfl)) dX1_readLevel_53 ⟨Nat.le_of_ble_eq_true rfl, Nat.le_of_ble_eq_true rfl⟩) (fun H33 lo34 Z35 => ?_)
            clear Z28 hc31
            refine lv_if_ne (tgt := 61) hx hb dX1_readLevel_56 (by decide) (fun b36 => ?_) (fun b36 => ?_)
            · have hf37 := zNot hf32 b36
              clear hf32
              refine lv_aload_n hx hb dX1_readLevel_61 rfl (lv_at hl11 1 rfl) ?_
              refine zy_get (v := .ref (ad 8)) X Z35 xL_ok xk_7 rfl rfl (fun w h => List.mem_cons_of_mem _ (List.mem_append_left _ (List.mem_append_right _ h))) 1 rfl (zz_m 1 rfl) rfl dX1_readLevel_62 ?_
              refine lv_sipush (v := (-1000)) hx hb dX1_readLevel_65 (by decide) ?_
              refine lv_iload_n hx hb dX1_readLevel_68 rfl (lv_at hl11 0 rfl) ?_
              refine lv_isub hx hb dX1_readLevel_69 ?_
              obtain ⟨r38, σ39, hc40, hf41⟩ := zBd hf37
              clear hf37
              refine zy_cv (WS1 := zg_W XL ad cA σ39) (TYS1 := zg_T XL cA) Z35 (va_runV (As := [.int ((-1000) - r4)]) (rest := []) X (c_X5_addStep l D V ad cA 8 ((-1000) - r4) xk_8 σ30 r38 σ39 hc40 H33.size) (cwV 1 hts gX1_readLevel_X5_addStep rfl rfl rfl ⟨rfl, zh_X5_addStep⟩ ⟨show 0 + 1 ≤ 5 + (d + 1) by omega, show 8 + (2 + 11) + 0 ≤ 112 + 23 * (d + 1) by omega⟩) (zy_pV (ci := 5) Z35 xL_ok xk_8 rfl rfl) rfl rfl hl11.1 rfl (lv_room (Nat.le_of_ble_eq_true rfl)) dX1_readLevel_70 ⟨Nat.le_of_ble_eq_true rfl, Nat.le_of_ble_eq_true rfl⟩) (fun H42 lo43 Z44 => ?_)
              clear Z35 hc40
              refine lv_iload_n hx hb dX1_readLevel_73 rfl (lv_at hl11 2 rfl) ?_
              refine lv_iconst (v := 2) hx hb dX1_readLevel_74 (by decide) ?_
              refine lv_icmp_ne (tgt := 80) hx hb dX1_readLevel_75 (by decide) (fun b45 => ?_) (fun b45 => ?_)
              · have hf46 := zNot hf41 b45
                clear hf41
                refine lv_iinc (v := (x2 + 1)) (lv' := [(2, .int (x2 + 1)), (3, .int r4), (0, .ref (ad 7)), (1, .int a1)]) hx hb dX1_readLevel_80 hl11 (k := 3) rfl rfl (by decide) rfl (fun ls48 hl47 => ?_)
                clear hl11
                refine lv_goto (tgt := 24) hx hb dX1_readLevel_83 (by decide) ?_
                exact ih24_ (x2 + 1) σ39 hf46 _ _ _ Z44 (lv_sub hl47 [2, 3, 0] rfl)
              · have hf49 := zYes hf41 b45
                clear hf41
                refine lv_iconst (v := 1) hx hb dX1_readLevel_78 (by decide) ?_
                exact zy_zret X hr hlk Z44 (by decide) (zEnd hf49) dX1_readLevel_79
            · have hf50 := zYes hf32 b36
              clear hf32
              refine lv_iconst (v := 0) hx hb dX1_readLevel_59 (by decide) ?_
              exact zy_zret X hr hlk Z35 (by decide) (zEnd hf50) dX1_readLevel_60
          · have hf51 := zNot hf16 b20
            clear hf16
            refine lv_iconst (v := 1) hx hb dX1_readLevel_43 (by decide) ?_
            exact zy_zret X hr hlk Z19 (by decide) (zEnd hf51) dX1_readLevel_44
  refine lv_iload_n hx hb dX1_readLevel_0 rfl (lv_at hl 1 rfl) ?_
  refine lv_iconst (v := 4) hx hb dX1_readLevel_1 (by decide) ?_
  refine lv_icmp_le (tgt := 10) hx hb dX1_readLevel_2 (by decide) (fun b52 => ?_) (fun b52 => ?_)
  · have hf53 := zYes hf b52
    clear hf
    refine lv_aload_n hx hb dX1_readLevel_10 rfl (lv_at hl 0 rfl) ?_
    refine lv_iload_n hx hb dX1_readLevel_11 rfl (lv_at hl 1 rfl) ?_
    refine lv_iconst (v := 1) hx hb dX1_readLevel_12 (by decide) ?_
    refine lv_iadd hx hb dX1_readLevel_13 ?_
    obtain ⟨r54, σ55, hc56, hf57⟩ := zBd hf53
    clear hf53
    refine zy_ci (r0 := r54) (WS1 := zg_W XL ad cA σ55) (TYS1 := zg_T XL cA) Z (va_runV (As := [.int (a1 + 1)]) (rest := []) X ((ih.1) (a1 + 1) σ r54 σ55 hc56 s.heap.size) (cwV 1 hts gX1_readLevel_X1_readLevel rfl rfl rfl ⟨rfl, zh_X1_readLevel⟩ ⟨show 5 + d + 1 ≤ 5 + (d + 1) by omega, show 8 + (4 + 11) + (112 + 23 * d) ≤ 112 + 23 * (d + 1) by omega⟩) (zy_pV (ci := 1) Z xL_ok xk_7 rfl rfl) rfl rfl hl.1 rfl (lv_room (Nat.le_of_ble_eq_true rfl)) dX1_readLevel_14 ⟨Nat.le_of_ble_eq_true rfl, Nat.le_of_ble_eq_true rfl⟩) (fun H58 lo59 Z60 => ?_)
    clear Z hc56
    refine lv_if_ne (tgt := 22) hx hb dX1_readLevel_17 (by decide) (fun b61 => ?_) (fun b61 => ?_)
    · have hf62 := zNot hf57 b61
      clear hf57
      refine lv_iconst (v := 0) hx hb dX1_readLevel_22 (by decide) ?_
      refine lv_istore_n (lv' := [(2, .int 0), (0, .ref (ad 7)), (1, .int a1)]) hx hb dX1_readLevel_23 rfl hl (by decide) rfl (fun ls64 hl63 => ?_)
      clear hl
      exact b24_ zfu 0 σ55 hf62 _ _ _ Z60 (lv_sub hl63 [1, 2, 0] rfl)
    · have hf65 := zYes hf57 b61
      clear hf57
      refine lv_iconst (v := 0) hx hb dX1_readLevel_20 (by decide) ?_
      exact zy_zret X hr hlk Z60 (by decide) (zEnd hf65) dX1_readLevel_21
  · have hf66 := zNot hf b52
    clear hf
    refine lv_aload_n hx hb dX1_readLevel_5 rfl (lv_at hl 0 rfl) ?_
    obtain ⟨r67, σ68, hc69, hf70⟩ := zBd hf66
    clear hf66
    refine zy_ci (r0 := r67) (WS1 := zg_W XL ad cA σ68) (TYS1 := zg_T XL cA) Z (va_runV (As := []) (rest := []) X ((ih.2.1) 0 σ r67 σ68 hc69 s.heap.size) (cwV 0 hts gX1_readLevel_X1_readPiece rfl rfl rfl ⟨rfl, zh_X1_readPiece⟩ ⟨show 5 + d + 1 ≤ 5 + (d + 1) by omega, show 8 + (1 + 11) + (112 + 23 * d) ≤ 112 + 23 * (d + 1) by omega⟩) (zy_pV (ci := 1) Z xL_ok xk_7 rfl rfl) rfl rfl hl.1 rfl (lv_room (Nat.le_of_ble_eq_true rfl)) dX1_readLevel_6 ⟨Nat.le_of_ble_eq_true rfl, Nat.le_of_ble_eq_true rfl⟩) (fun H71 lo72 Z73 => ?_)
    clear Z hc69
    obtain ⟨z75, hf74⟩ := zC hf70
    exact zy_zret X hr hlk Z73 z75 (zEnd hf74) dX1_readLevel_9

set_option maxHeartbeats 4000000 in
set_option maxRecDepth 100000 in
theorem c_X1_readPiece_s (l : Launch) (D : va_G) (V : zz_V) (ad : Nat → Nat) (cA : Nat → ClassId) (d : Nat) (ih : zG_rd l D V ad cA d)  (σ : zg_S) (r0 : Int32) (σf : zg_S) (hf : f_X1_readPiece (G_rd d)  σ = some (r0, σf)) : zM_I l yX1_readPiece wsX1_readPiece (5 + (d + 1)) (112 + 23 * (d + 1)) D V XL ad cA [.ref (ad 7)] σ r0 σf := by
  intro sz
  refine Met.ofW (cc := cX1_readPiece) (maxL := 1) (ret := (some .boolean)) (by decide) rfl ?_
  intro p e s m args below meth c s₁ B hml hv
  obtain ⟨rfl, hC⟩ := hv
  have hx := B.exec
  have hb := B.bytes
  have hr := B.returns
  have hts := atoms_spec (ws := wsX1_readPiece) B.pre
  have hown : s.vm.findClass RX1 = some m.cls := findClass_of_methodNamed B.named
  have hlk := B.notSynchronized
  have X : CallFix p m c cX1_readPiece 1 s _ wsX1_readPiece RX1 := ⟨hx, hb, hml, hown, hts⟩
  have Z := zz_enter hC
  generalize va_A (zg_W XL ad cA σ) sz = A at Z ⊢
  have hl := lv_entry ([.ref (ad 7)]) (n := 1) (Nat.le_of_ble_eq_true rfl)
  rw [lg_entry_eq]
  generalize (lg_sl ([.ref (ad 7)]) ++ List.replicate (1 - (lg_sl ([.ref (ad 7)])).length) Slot.unset).toArray = ls at hl ⊢
  have hl : lv_has ls 1 [(0, .ref (ad 7))] := hl
  unfold f_X1_readPiece at hf
  refine lv_aload_n hx hb dX1_readPiece_0 rfl (lv_at hl 0 rfl) ?_
  refine zy_get (v := .int (σ 7 3)) X Z xL_ok xk_7 rfl rfl (fun w h => List.mem_cons_of_mem _ (List.mem_append_left _ (List.mem_append_right _ h))) 3 rfl (zz_m 1 rfl) rfl dX1_readPiece_1 ?_
  by_cases w1 : σ 7 3 = 1
  · have hf2 := zYes hf w1
    clear hf
    refine zz_v w1 ?_
    refine lv_lookup (x := 1) (off := 33) (tgt := 37) hx hb dX1_readPiece_4 (by decide) (by decide) (by decide) ?_
    refine lv_aload_n hx hb dX1_readPiece_37 rfl (lv_at hl 0 rfl) ?_
    obtain ⟨r3, σ4, hc5, hf6⟩ := zBd hf2
    clear hf2
    refine zy_ci (r0 := r3) (WS1 := zg_W XL ad cA σ4) (TYS1 := zg_T XL cA) Z (va_runV (As := []) (rest := []) X (c_X1_readName l D V ad cA  σ r3 σ4 hc5 s.heap.size) (cwV 0 hts gX1_readPiece_X1_readName rfl rfl rfl ⟨rfl, zh_X1_readName⟩ ⟨show 4 + 1 ≤ 5 + (d + 1) by omega, show 8 + (2 + 11) + 91 ≤ 112 + 23 * (d + 1) by omega⟩) (zy_pV (ci := 1) Z xL_ok xk_7 rfl rfl) rfl rfl hl.1 rfl (lv_room (Nat.le_of_ble_eq_true rfl)) dX1_readPiece_38 ⟨Nat.le_of_ble_eq_true rfl, Nat.le_of_ble_eq_true rfl⟩) (fun H7 lo8 Z9 => ?_)
    clear Z hc5
    obtain ⟨z11, hf10⟩ := zC hf6
    exact zy_zret X hr hlk Z9 z11 (zEnd hf10) dX1_readPiece_41
  · have hf12 := zNot hf w1
    clear hf
    by_cases w13 : σ 7 3 = 2
    · have hf14 := zYes hf12 w13
      clear hf12
      refine zz_v w13 ?_
      refine lv_lookup (x := 2) (off := 28) (tgt := 32) hx hb dX1_readPiece_4 (by decide) (by decide) (by decide) ?_
      refine lv_aload_n hx hb dX1_readPiece_32 rfl (lv_at hl 0 rfl) ?_
      obtain ⟨r15, σ16, hc17, hf18⟩ := zBd hf14
      clear hf14
      refine zy_ci (r0 := r15) (WS1 := zg_W XL ad cA σ16) (TYS1 := zg_T XL cA) Z (va_runV (As := []) (rest := []) X (c_X1_readNumber l D V ad cA  σ r15 σ16 hc17 s.heap.size) (cwV 0 hts gX1_readPiece_X1_readNumber rfl rfl rfl ⟨rfl, zh_X1_readNumber⟩ ⟨show 2 + 1 ≤ 5 + (d + 1) by omega, show 8 + (3 + 11) + 46 ≤ 112 + 23 * (d + 1) by omega⟩) (zy_pV (ci := 1) Z xL_ok xk_7 rfl rfl) rfl rfl hl.1 rfl (lv_room (Nat.le_of_ble_eq_true rfl)) dX1_readPiece_33 ⟨Nat.le_of_ble_eq_true rfl, Nat.le_of_ble_eq_true rfl⟩) (fun H19 lo20 Z21 => ?_)
      clear Z hc17
      obtain ⟨z23, hf22⟩ := zC hf18
      exact zy_zret X hr hlk Z21 z23 (zEnd hf22) dX1_readPiece_36
    · have hf24 := zNot hf12 w13
      clear hf12
      have n25 := zNe (k := 1) (y := 1) (by decide) w1
      have n26 := zNe (k := 2) (y := 2) (by decide) w13
      refine lv_lookup (off := 38) (tgt := 42) hx hb dX1_readPiece_4 (by decide) (by simp [Op.lookupswitch.offset, n25, n26, Ne.symm n25, Ne.symm n26]) (by decide) ?_
      refine lv_aload_n hx hb dX1_readPiece_42 rfl (lv_at hl 0 rfl) ?_
      obtain ⟨r27, σ28, hc29, hf30⟩ := zBd hf24
      clear hf24
      refine zy_ci (r0 := r27) (WS1 := zg_W XL ad cA σ28) (TYS1 := zg_T XL cA) Z (va_runV (As := []) (rest := []) X (c_X1_signHere l D V ad cA  σ r27 σ28 hc29 s.heap.size) (cwV 0 hts gX1_readPiece_X1_signHere rfl rfl rfl ⟨rfl, zh_X1_signHere⟩ ⟨show 1 + 1 ≤ 5 + (d + 1) by omega, show 8 + (1 + 11) + 22 ≤ 112 + 23 * (d + 1) by omega⟩) (zy_pV (ci := 1) Z xL_ok xk_7 rfl rfl) rfl rfl hl.1 rfl (lv_room (Nat.le_of_ble_eq_true rfl)) dX1_readPiece_43 ⟨Nat.le_of_ble_eq_true rfl, Nat.le_of_ble_eq_true rfl⟩) (fun H31 lo32 Z33 => ?_)
      clear Z hc29
      by_cases w34 : r27 = 33
      · have hf35 := zYes hf30 w34
        clear hf30
        refine zz_v w34 ?_
        refine lv_lookup (x := 33) (off := 26) (tgt := 72) hx hb dX1_readPiece_46 (by decide) (by decide) (by decide) ?_
        refine lv_aload_n hx hb dX1_readPiece_72 rfl (lv_at hl 0 rfl) ?_
        obtain ⟨r36, σ37, hc38, hf39⟩ := zBd hf35
        clear hf35
        refine zy_ci (r0 := r36) (WS1 := zg_W XL ad cA σ37) (TYS1 := zg_T XL cA) Z33 (va_runV (As := []) (rest := []) X ((ih.2.2.1) 0 σ28 r36 σ37 hc38 H31.size) (cwV 0 hts gX1_readPiece_X1_readNot rfl rfl rfl ⟨rfl, zh_X1_readNot⟩ ⟨show 5 + d + 1 ≤ 5 + (d + 1) by omega, show 8 + (1 + 11) + (112 + 23 * d) ≤ 112 + 23 * (d + 1) by omega⟩) (zy_pV (ci := 1) Z33 xL_ok xk_7 rfl rfl) rfl rfl hl.1 rfl (lv_room (Nat.le_of_ble_eq_true rfl)) dX1_readPiece_73 ⟨Nat.le_of_ble_eq_true rfl, Nat.le_of_ble_eq_true rfl⟩) (fun H40 lo41 Z42 => ?_)
        clear Z33 hc38
        obtain ⟨z44, hf43⟩ := zC hf39
        exact zy_zret X hr hlk Z42 z44 (zEnd hf43) dX1_readPiece_76
      · have hf45 := zNot hf30 w34
        clear hf30
        by_cases w46 : r27 = 40
        · have hf47 := zYes hf45 w46
          clear hf45
          refine zz_v w46 ?_
          refine lv_lookup (x := 40) (off := 31) (tgt := 77) hx hb dX1_readPiece_46 (by decide) (by decide) (by decide) ?_
          refine lv_aload_n hx hb dX1_readPiece_77 rfl (lv_at hl 0 rfl) ?_
          obtain ⟨r48, σ49, hc50, hf51⟩ := zBd hf47
          clear hf47
          refine zy_ci (r0 := r48) (WS1 := zg_W XL ad cA σ49) (TYS1 := zg_T XL cA) Z33 (va_runV (As := []) (rest := []) X ((ih.2.2.2) 0 σ28 r48 σ49 hc50 H31.size) (cwV 0 hts gX1_readPiece_X1_readBracket rfl rfl rfl ⟨rfl, zh_X1_readBracket⟩ ⟨show 5 + d + 1 ≤ 5 + (d + 1) by omega, show 8 + (1 + 11) + (112 + 23 * d) ≤ 112 + 23 * (d + 1) by omega⟩) (zy_pV (ci := 1) Z33 xL_ok xk_7 rfl rfl) rfl rfl hl.1 rfl (lv_room (Nat.le_of_ble_eq_true rfl)) dX1_readPiece_78 ⟨Nat.le_of_ble_eq_true rfl, Nat.le_of_ble_eq_true rfl⟩) (fun H52 lo53 Z54 => ?_)
          clear Z33 hc50
          obtain ⟨z56, hf55⟩ := zC hf51
          exact zy_zret X hr hlk Z54 z56 (zEnd hf55) dX1_readPiece_81
        · have hf57 := zNot hf45 w46
          clear hf45
          have n58 := zNe (k := 33) (y := 33) (by decide) w34
          have n59 := zNe (k := 40) (y := 40) (by decide) w46
          refine lv_lookup (off := 36) (tgt := 82) hx hb dX1_readPiece_46 (by decide) (by simp [Op.lookupswitch.offset, n58, n59, Ne.symm n58, Ne.symm n59]) (by decide) ?_
          refine lv_iconst (v := 0) hx hb dX1_readPiece_82 (by decide) ?_
          exact zy_zret X hr hlk Z33 (by decide) (zEnd hf57) dX1_readPiece_83

set_option maxHeartbeats 4000000 in
set_option maxRecDepth 100000 in
theorem c_X1_readNot_s (l : Launch) (D : va_G) (V : zz_V) (ad : Nat → Nat) (cA : Nat → ClassId) (d : Nat) (ih : zG_rd l D V ad cA d)  (σ : zg_S) (r0 : Int32) (σf : zg_S) (hf : f_X1_readNot (G_rd d)  σ = some (r0, σf)) : zM_I l yX1_readNot wsX1_readNot (5 + (d + 1)) (112 + 23 * (d + 1)) D V XL ad cA [.ref (ad 7)] σ r0 σf := by
  intro sz
  refine Met.ofW (cc := cX1_readNot) (maxL := 1) (ret := (some .boolean)) (by decide) rfl ?_
  intro p e s m args below meth c s₁ B hml hv
  obtain ⟨rfl, hC⟩ := hv
  have hx := B.exec
  have hb := B.bytes
  have hr := B.returns
  have hts := atoms_spec (ws := wsX1_readNot) B.pre
  have hown : s.vm.findClass RX1 = some m.cls := findClass_of_methodNamed B.named
  have hlk := B.notSynchronized
  have X : CallFix p m c cX1_readNot 1 s _ wsX1_readNot RX1 := ⟨hx, hb, hml, hown, hts⟩
  have Z := zz_enter hC
  generalize va_A (zg_W XL ad cA σ) sz = A at Z ⊢
  have hl := lv_entry ([.ref (ad 7)]) (n := 1) (Nat.le_of_ble_eq_true rfl)
  rw [lg_entry_eq]
  generalize (lg_sl ([.ref (ad 7)]) ++ List.replicate (1 - (lg_sl ([.ref (ad 7)])).length) Slot.unset).toArray = ls at hl ⊢
  have hl : lv_has ls 1 [(0, .ref (ad 7))] := hl
  unfold f_X1_readNot at hf
  refine lv_aload_n hx hb dX1_readNot_0 rfl (lv_at hl 0 rfl) ?_
  refine zy_get (v := .int (σ 7 7)) X Z xL_ok xk_7 rfl rfl (fun w h => List.mem_cons_of_mem _ (List.mem_append_left _ (List.mem_append_right _ h))) 7 rfl (zz_m 1 rfl) rfl dX1_readNot_1 ?_
  refine lv_bipush (v := 8) hx hb dX1_readNot_4 (by decide) ?_
  refine lv_icmp_lt (tgt := 11) hx hb dX1_readNot_6 (by decide) (fun b1 => ?_) (fun b1 => ?_)
  · have hf2 := zYes hf b1
    clear hf
    refine lv_aload_n hx hb dX1_readNot_11 rfl (lv_at hl 0 rfl) ?_
    refine lv_dup hx hb dX1_readNot_12 rfl ?_
    refine zy_get (v := .int (σ 7 7)) X Z xL_ok xk_7 rfl rfl (fun w h => List.mem_cons_of_mem _ (List.mem_append_left _ (List.mem_append_right _ h))) 7 rfl (zz_m 1 rfl) rfl dX1_readNot_13 ?_
    refine lv_iconst (v := 1) hx hb dX1_readNot_16 (by decide) ?_
    refine lv_iadd hx hb dX1_readNot_17 ?_
    obtain ⟨σ3, es4, hf5⟩ := zLet hf2
    clear hf2
    refine zy_put (v := (σ 7 7) + 1) (σ' := σ3) X Z xL_ok xk_7 rfl rfl (fun w h => List.mem_cons_of_mem _ (List.mem_append_left _ (List.mem_append_right _ h))) tyX1 tyX1_ok nmX1 7 rfl (zz_m 1 rfl) rfl rfl rfl (fun _ => rfl) (fun _ => rfl) es4 dX1_readNot_18 (fun H6 lo7 Z8 => ?_)
    clear Z es4
    refine lv_aload_n hx hb dX1_readNot_21 rfl (lv_at hl 0 rfl) ?_
    obtain ⟨r9, σ10, hc11, hf12⟩ := zBd hf5
    clear hf5
    refine zy_cv (WS1 := zg_W XL ad cA σ10) (TYS1 := zg_T XL cA) Z8 (va_runV (As := []) (rest := []) X (c_X1_advance l D V ad cA  σ3 r9 σ10 hc11 H6.size) (cwV 0 hts gX1_readNot_X1_advance rfl rfl rfl ⟨rfl, zh_X1_advance⟩ ⟨show 1 + 1 ≤ 5 + (d + 1) by omega, show 8 + (5 + 11) + 22 ≤ 112 + 23 * (d + 1) by omega⟩) (zy_pV (ci := 1) Z8 xL_ok xk_7 rfl rfl) rfl rfl hl.1 rfl (lv_room (Nat.le_of_ble_eq_true rfl)) dX1_readNot_22 ⟨Nat.le_of_ble_eq_true rfl, Nat.le_of_ble_eq_true rfl⟩) (fun H13 lo14 Z15 => ?_)
    clear Z8 hc11
    refine lv_aload_n hx hb dX1_readNot_25 rfl (lv_at hl 0 rfl) ?_
    obtain ⟨r16, σ17, hc18, hf19⟩ := zBd hf12
    clear hf12
    refine zy_ci (r0 := r16) (WS1 := zg_W XL ad cA σ17) (TYS1 := zg_T XL cA) Z15 (va_runV (As := []) (rest := []) X ((ih.2.1) 0 σ10 r16 σ17 hc18 H13.size) (cwV 0 hts gX1_readNot_X1_readPiece rfl rfl rfl ⟨rfl, zh_X1_readPiece⟩ ⟨show 5 + d + 1 ≤ 5 + (d + 1) by omega, show 8 + (1 + 11) + (112 + 23 * d) ≤ 112 + 23 * (d + 1) by omega⟩) (zy_pV (ci := 1) Z15 xL_ok xk_7 rfl rfl) rfl rfl hl.1 rfl (lv_room (Nat.le_of_ble_eq_true rfl)) dX1_readNot_26 ⟨Nat.le_of_ble_eq_true rfl, Nat.le_of_ble_eq_true rfl⟩) (fun H20 lo21 Z22 => ?_)
    clear Z15 hc18
    refine lv_if_ne (tgt := 34) hx hb dX1_readNot_29 (by decide) (fun b23 => ?_) (fun b23 => ?_)
    · have hf24 := zNot hf19 b23
      clear hf19
      refine lv_aload_n hx hb dX1_readNot_34 rfl (lv_at hl 0 rfl) ?_
      refine lv_dup hx hb dX1_readNot_35 rfl ?_
      refine zy_get (v := .int (σ17 7 7)) X Z22 xL_ok xk_7 rfl rfl (fun w h => List.mem_cons_of_mem _ (List.mem_append_left _ (List.mem_append_right _ h))) 7 rfl (zz_m 1 rfl) rfl dX1_readNot_36 ?_
      refine lv_iconst (v := 1) hx hb dX1_readNot_39 (by decide) ?_
      refine lv_isub hx hb dX1_readNot_40 ?_
      obtain ⟨σ25, es26, hf27⟩ := zLet hf24
      clear hf24
      refine zy_put (v := (σ17 7 7) - 1) (σ' := σ25) X Z22 xL_ok xk_7 rfl rfl (fun w h => List.mem_cons_of_mem _ (List.mem_append_left _ (List.mem_append_right _ h))) tyX1 tyX1_ok nmX1 7 rfl (zz_m 1 rfl) rfl rfl rfl (fun _ => rfl) (fun _ => rfl) es26 dX1_readNot_41 (fun H28 lo29 Z30 => ?_)
      clear Z22 es26
      refine lv_aload_n hx hb dX1_readNot_44 rfl (lv_at hl 0 rfl) ?_
      refine zy_get (v := .ref (ad 8)) X Z30 xL_ok xk_7 rfl rfl (fun w h => List.mem_cons_of_mem _ (List.mem_append_left _ (List.mem_append_right _ h))) 1 rfl (zz_m 2 rfl) rfl dX1_readNot_45 ?_
      refine lv_sipush (v := (-1033)) hx hb dX1_readNot_48 (by decide) ?_
      obtain ⟨r31, σ32, hc33, hf34⟩ := zBd hf27
      clear hf27
      refine zy_cv (WS1 := zg_W XL ad cA σ32) (TYS1 := zg_T XL cA) Z30 (va_runV (As := [.int (-1033)]) (rest := []) X (c_X5_addStep l D V ad cA 8 (-1033) xk_8 σ25 r31 σ32 hc33 H28.size) (cwV 1 hts gX1_readNot_X5_addStep rfl rfl rfl ⟨rfl, zh_X5_addStep⟩ ⟨show 0 + 1 ≤ 5 + (d + 1) by omega, show 8 + (2 + 11) + 0 ≤ 112 + 23 * (d + 1) by omega⟩) (zy_pV (ci := 5) Z30 xL_ok xk_8 rfl rfl) rfl rfl hl.1 rfl (lv_room (Nat.le_of_ble_eq_true rfl)) dX1_readNot_51 ⟨Nat.le_of_ble_eq_true rfl, Nat.le_of_ble_eq_true rfl⟩) (fun H35 lo36 Z37 => ?_)
      clear Z30 hc33
      refine lv_iconst (v := 1) hx hb dX1_readNot_54 (by decide) ?_
      exact zy_zret X hr hlk Z37 (by decide) (zEnd hf34) dX1_readNot_55
    · have hf38 := zYes hf19 b23
      clear hf19
      refine lv_iconst (v := 0) hx hb dX1_readNot_32 (by decide) ?_
      exact zy_zret X hr hlk Z22 (by decide) (zEnd hf38) dX1_readNot_33
  · have hf39 := zNot hf b1
    clear hf
    refine lv_iconst (v := 0) hx hb dX1_readNot_9 (by decide) ?_
    exact zy_zret X hr hlk Z (by decide) (zEnd hf39) dX1_readNot_10

set_option maxHeartbeats 4000000 in
set_option maxRecDepth 100000 in
theorem c_X1_readBracket_s (l : Launch) (D : va_G) (V : zz_V) (ad : Nat → Nat) (cA : Nat → ClassId) (d : Nat) (ih : zG_rd l D V ad cA d)  (σ : zg_S) (r0 : Int32) (σf : zg_S) (hf : f_X1_readBracket (G_rd d)  σ = some (r0, σf)) : zM_I l yX1_readBracket wsX1_readBracket (5 + (d + 1)) (112 + 23 * (d + 1)) D V XL ad cA [.ref (ad 7)] σ r0 σf := by
  intro sz
  refine Met.ofW (cc := cX1_readBracket) (maxL := 1) (ret := (some .boolean)) (by decide) rfl ?_
  intro p e s m args below meth c s₁ B hml hv
  obtain ⟨rfl, hC⟩ := hv
  have hx := B.exec
  have hb := B.bytes
  have hr := B.returns
  have hts := atoms_spec (ws := wsX1_readBracket) B.pre
  have hown : s.vm.findClass RX1 = some m.cls := findClass_of_methodNamed B.named
  have hlk := B.notSynchronized
  have X : CallFix p m c cX1_readBracket 1 s _ wsX1_readBracket RX1 := ⟨hx, hb, hml, hown, hts⟩
  have Z := zz_enter hC
  generalize va_A (zg_W XL ad cA σ) sz = A at Z ⊢
  have hl := lv_entry ([.ref (ad 7)]) (n := 1) (Nat.le_of_ble_eq_true rfl)
  rw [lg_entry_eq]
  generalize (lg_sl ([.ref (ad 7)]) ++ List.replicate (1 - (lg_sl ([.ref (ad 7)])).length) Slot.unset).toArray = ls at hl ⊢
  have hl : lv_has ls 1 [(0, .ref (ad 7))] := hl
  unfold f_X1_readBracket at hf
  refine lv_aload_n hx hb dX1_readBracket_0 rfl (lv_at hl 0 rfl) ?_
  refine zy_get (v := .int (σ 7 6)) X Z xL_ok xk_7 rfl rfl (fun w h => List.mem_cons_of_mem _ (List.mem_append_left _ (List.mem_append_right _ h))) 6 rfl (zz_m 1 rfl) rfl dX1_readBracket_1 ?_
  refine lv_bipush (v := 8) hx hb dX1_readBracket_4 (by decide) ?_
  refine lv_icmp_lt (tgt := 11) hx hb dX1_readBracket_6 (by decide) (fun b1 => ?_) (fun b1 => ?_)
  · have hf2 := zYes hf b1
    clear hf
    refine lv_aload_n hx hb dX1_readBracket_11 rfl (lv_at hl 0 rfl) ?_
    refine lv_dup hx hb dX1_readBracket_12 rfl ?_
    refine zy_get (v := .int (σ 7 6)) X Z xL_ok xk_7 rfl rfl (fun w h => List.mem_cons_of_mem _ (List.mem_append_left _ (List.mem_append_right _ h))) 6 rfl (zz_m 1 rfl) rfl dX1_readBracket_13 ?_
    refine lv_iconst (v := 1) hx hb dX1_readBracket_16 (by decide) ?_
    refine lv_iadd hx hb dX1_readBracket_17 ?_
    obtain ⟨σ3, es4, hf5⟩ := zLet hf2
    clear hf2
    refine zy_put (v := (σ 7 6) + 1) (σ' := σ3) X Z xL_ok xk_7 rfl rfl (fun w h => List.mem_cons_of_mem _ (List.mem_append_left _ (List.mem_append_right _ h))) tyX1 tyX1_ok nmX1 6 rfl (zz_m 1 rfl) rfl rfl rfl (fun _ => rfl) (fun _ => rfl) es4 dX1_readBracket_18 (fun H6 lo7 Z8 => ?_)
    clear Z es4
    refine lv_aload_n hx hb dX1_readBracket_21 rfl (lv_at hl 0 rfl) ?_
    obtain ⟨r9, σ10, hc11, hf12⟩ := zBd hf5
    clear hf5
    refine zy_cv (WS1 := zg_W XL ad cA σ10) (TYS1 := zg_T XL cA) Z8 (va_runV (As := []) (rest := []) X (c_X1_advance l D V ad cA  σ3 r9 σ10 hc11 H6.size) (cwV 0 hts gX1_readBracket_X1_advance rfl rfl rfl ⟨rfl, zh_X1_advance⟩ ⟨show 1 + 1 ≤ 5 + (d + 1) by omega, show 8 + (5 + 11) + 22 ≤ 112 + 23 * (d + 1) by omega⟩) (zy_pV (ci := 1) Z8 xL_ok xk_7 rfl rfl) rfl rfl hl.1 rfl (lv_room (Nat.le_of_ble_eq_true rfl)) dX1_readBracket_22 ⟨Nat.le_of_ble_eq_true rfl, Nat.le_of_ble_eq_true rfl⟩) (fun H13 lo14 Z15 => ?_)
    clear Z8 hc11
    refine lv_aload_n hx hb dX1_readBracket_25 rfl (lv_at hl 0 rfl) ?_
    refine lv_iconst (v := 0) hx hb dX1_readBracket_26 (by decide) ?_
    obtain ⟨r16, σ17, hc18, hf19⟩ := zBd hf12
    clear hf12
    refine zy_ci (r0 := r16) (WS1 := zg_W XL ad cA σ17) (TYS1 := zg_T XL cA) Z15 (va_runV (As := [.int 0]) (rest := []) X ((ih.1) 0 σ10 r16 σ17 hc18 H13.size) (cwV 1 hts gX1_readBracket_X1_readLevel rfl rfl rfl ⟨rfl, zh_X1_readLevel⟩ ⟨show 5 + d + 1 ≤ 5 + (d + 1) by omega, show 8 + (4 + 11) + (112 + 23 * d) ≤ 112 + 23 * (d + 1) by omega⟩) (zy_pV (ci := 1) Z15 xL_ok xk_7 rfl rfl) rfl rfl hl.1 rfl (lv_room (Nat.le_of_ble_eq_true rfl)) dX1_readBracket_27 ⟨Nat.le_of_ble_eq_true rfl, Nat.le_of_ble_eq_true rfl⟩) (fun H20 lo21 Z22 => ?_)
    clear Z15 hc18
    refine lv_if_eq (tgt := 42) hx hb dX1_readBracket_30 (by decide) (fun b23 => ?_) (fun b23 => ?_)
    · have hf24 := zYes hf19 b23
      clear hf19
      refine lv_iconst (v := 0) hx hb dX1_readBracket_42 (by decide) ?_
      exact zy_zret X hr hlk Z22 (by decide) (zEnd hf24) dX1_readBracket_43
    · have hf25 := zNot hf19 b23
      clear hf19
      refine lv_aload_n hx hb dX1_readBracket_33 rfl (lv_at hl 0 rfl) ?_
      obtain ⟨r26, σ27, hc28, hf29⟩ := zBd hf25
      clear hf25
      refine zy_ci (r0 := r26) (WS1 := zg_W XL ad cA σ27) (TYS1 := zg_T XL cA) Z22 (va_runV (As := []) (rest := []) X (c_X1_signHere l D V ad cA  σ17 r26 σ27 hc28 H20.size) (cwV 0 hts gX1_readBracket_X1_signHere rfl rfl rfl ⟨rfl, zh_X1_signHere⟩ ⟨show 1 + 1 ≤ 5 + (d + 1) by omega, show 8 + (1 + 11) + 22 ≤ 112 + 23 * (d + 1) by omega⟩) (zy_pV (ci := 1) Z22 xL_ok xk_7 rfl rfl) rfl rfl hl.1 rfl (lv_room (Nat.le_of_ble_eq_true rfl)) dX1_readBracket_34 ⟨Nat.le_of_ble_eq_true rfl, Nat.le_of_ble_eq_true rfl⟩) (fun H30 lo31 Z32 => ?_)
      clear Z22 hc28
      refine lv_bipush (v := 41) hx hb dX1_readBracket_37 (by decide) ?_
      refine lv_icmp_eq (tgt := 44) hx hb dX1_readBracket_39 (by decide) (fun b33 => ?_) (fun b33 => ?_)
      · have hf34 := zYes hf29 b33
        clear hf29
        refine lv_aload_n hx hb dX1_readBracket_44 rfl (lv_at hl 0 rfl) ?_
        refine lv_dup hx hb dX1_readBracket_45 rfl ?_
        refine zy_get (v := .int (σ27 7 6)) X Z32 xL_ok xk_7 rfl rfl (fun w h => List.mem_cons_of_mem _ (List.mem_append_left _ (List.mem_append_right _ h))) 6 rfl (zz_m 1 rfl) rfl dX1_readBracket_46 ?_
        refine lv_iconst (v := 1) hx hb dX1_readBracket_49 (by decide) ?_
        refine lv_isub hx hb dX1_readBracket_50 ?_
        obtain ⟨σ35, es36, hf37⟩ := zLet hf34
        clear hf34
        refine zy_put (v := (σ27 7 6) - 1) (σ' := σ35) X Z32 xL_ok xk_7 rfl rfl (fun w h => List.mem_cons_of_mem _ (List.mem_append_left _ (List.mem_append_right _ h))) tyX1 tyX1_ok nmX1 6 rfl (zz_m 1 rfl) rfl rfl rfl (fun _ => rfl) (fun _ => rfl) es36 dX1_readBracket_51 (fun H38 lo39 Z40 => ?_)
        clear Z32 es36
        refine lv_aload_n hx hb dX1_readBracket_54 rfl (lv_at hl 0 rfl) ?_
        obtain ⟨r41, σ42, hc43, hf44⟩ := zBd hf37
        clear hf37
        refine zy_cv (WS1 := zg_W XL ad cA σ42) (TYS1 := zg_T XL cA) Z40 (va_runV (As := []) (rest := []) X (c_X1_advance l D V ad cA  σ35 r41 σ42 hc43 H38.size) (cwV 0 hts gX1_readBracket_X1_advance rfl rfl rfl ⟨rfl, zh_X1_advance⟩ ⟨show 1 + 1 ≤ 5 + (d + 1) by omega, show 8 + (5 + 11) + 22 ≤ 112 + 23 * (d + 1) by omega⟩) (zy_pV (ci := 1) Z40 xL_ok xk_7 rfl rfl) rfl rfl hl.1 rfl (lv_room (Nat.le_of_ble_eq_true rfl)) dX1_readBracket_55 ⟨Nat.le_of_ble_eq_true rfl, Nat.le_of_ble_eq_true rfl⟩) (fun H45 lo46 Z47 => ?_)
        clear Z40 hc43
        refine lv_iconst (v := 1) hx hb dX1_readBracket_58 (by decide) ?_
        exact zy_zret X hr hlk Z47 (by decide) (zEnd hf44) dX1_readBracket_59
      · have hf48 := zNot hf29 b33
        clear hf29
        refine lv_iconst (v := 0) hx hb dX1_readBracket_42 (by decide) ?_
        exact zy_zret X hr hlk Z32 (by decide) (zEnd hf48) dX1_readBracket_43
  · have hf49 := zNot hf b1
    clear hf
    refine lv_iconst (v := 0) hx hb dX1_readBracket_9 (by decide) ?_
    exact zy_zret X hr hlk Z (by decide) (zEnd hf49) dX1_readBracket_10

theorem c_G_rd (l : Launch) (D : va_G) (V : zz_V) (ad : Nat → Nat) (cA : Nat → ClassId) : ∀ d : Nat, zG_rd l D V ad cA d := by
  intro d
  induction d with
  | zero => exact ⟨fun _ _ _ _ h => zNone h, fun _ _ _ _ h => zNone h, fun _ _ _ _ h => zNone h, fun _ _ _ _ h => zNone h⟩
  | succ d ih => exact ⟨fun z0 σ r0 σf h => c_X1_readLevel_s l D V ad cA d ih z0 σ r0 σf h, fun z0 σ r0 σf h => c_X1_readPiece_s l D V ad cA d ih  σ r0 σf h, fun z0 σ r0 σf h => c_X1_readNot_s l D V ad cA d ih  σ r0 σf h, fun z0 σ r0 σf h => c_X1_readBracket_s l D V ad cA d ih  σ r0 σf h⟩
def f_X5_begin (q0 : Nat) (a1 : Int32) (σ : zg_S) : Option (Int32 × zg_S) := zlet (zg_up σ q0 0 a1) (fun (σ1 : zg_S) => zlet (zg_up σ1 q0 1 0) (fun (σ7 : zg_S) => zlet (zg_up σ7 q0 2 0) (fun (σ13 : zg_S) => some (0, σ13))))
set_option maxHeartbeats 4000000 in
set_option maxRecDepth 100000 in
theorem c_X5_begin (l : Launch) (D : va_G) (V : zz_V) (ad : Nat → Nat) (cA : Nat → ClassId) (q0 : Nat) (a1 : Int32) (hq0 : XL.2.1 q0 = 5) (σ : zg_S) (r0 : Int32) (σf : zg_S) (hf : f_X5_begin q0 a1 σ = some (r0, σf)) : zM_V l yX5_begin wsX5_begin 0 0 D V XL ad cA [.ref (ad q0), .int a1] σ r0 σf := by
  intro sz
  refine Met.ofW (cc := cX5_begin) (maxL := 2) (ret := none) (by decide) rfl ?_
  intro p e s m args below meth c s₁ B hml hv
  obtain ⟨rfl, hC⟩ := hv
  have hx := B.exec
  have hb := B.bytes
  have hr := B.returns
  have hts := atoms_spec (ws := wsX5_begin) B.pre
  have hown : s.vm.findClass RX5 = some m.cls := findClass_of_methodNamed B.named
  have hlk := B.notSynchronized
  have X : CallFix p m c cX5_begin 2 s _ wsX5_begin RX5 := ⟨hx, hb, hml, hown, hts⟩
  have Z := zz_enter hC
  generalize va_A (zg_W XL ad cA σ) sz = A at Z ⊢
  have hl := lv_entry ([.ref (ad q0), .int a1]) (n := 2) (Nat.le_of_ble_eq_true rfl)
  rw [lg_entry_eq]
  generalize (lg_sl ([.ref (ad q0), .int a1]) ++ List.replicate (2 - (lg_sl ([.ref (ad q0), .int a1])).length) Slot.unset).toArray = ls at hl ⊢
  have hl : lv_has ls 2 [(0, .ref (ad q0)), (1, .int a1)] := hl
  unfold f_X5_begin at hf
  refine lv_aload_n hx hb dX5_begin_0 rfl (lv_at hl 0 rfl) ?_
  refine lv_iload_n hx hb dX5_begin_1 rfl (lv_at hl 1 rfl) ?_
  obtain ⟨σ1, es2, hf3⟩ := zLet hf
  clear hf
  refine zy_put (v := a1) (σ' := σ1) X Z xL_ok hq0 rfl rfl (fun w h => List.mem_cons_of_mem _ (List.mem_append_right _ h)) tyX5 tyX5_ok nmX5 0 rfl (zz_m 1 rfl) rfl rfl rfl (fun _ => rfl) (fun _ => rfl) es2 dX5_begin_2 (fun H4 lo5 Z6 => ?_)
  clear Z es2
  refine lv_aload_n hx hb dX5_begin_5 rfl (lv_at hl 0 rfl) ?_
  refine lv_iconst (v := 0) hx hb dX5_begin_6 (by decide) ?_
  obtain ⟨σ7, es8, hf9⟩ := zLet hf3
  clear hf3
  refine zy_put (v := 0) (σ' := σ7) X Z6 xL_ok hq0 rfl rfl (fun w h => List.mem_cons_of_mem _ (List.mem_append_right _ h)) tyX5 tyX5_ok nmX5 1 rfl (zz_m 2 rfl) rfl rfl rfl (fun _ => rfl) (fun _ => rfl) es8 dX5_begin_7 (fun H10 lo11 Z12 => ?_)
  clear Z6 es8
  refine lv_aload_n hx hb dX5_begin_10 rfl (lv_at hl 0 rfl) ?_
  refine lv_iconst (v := 0) hx hb dX5_begin_11 (by decide) ?_
  obtain ⟨σ13, es14, hf15⟩ := zLet hf9
  clear hf9
  refine zy_put (v := 0) (σ' := σ13) X Z12 xL_ok hq0 rfl rfl (fun w h => List.mem_cons_of_mem _ (List.mem_append_right _ h)) tyX5 tyX5_ok nmX5 2 rfl (zz_m 3 rfl) rfl rfl rfl (fun _ => rfl) (fun _ => rfl) es14 dX5_begin_12 (fun H16 lo17 Z18 => ?_)
  clear Z12 es14
  exact zy_vret X hr hlk Z18 (zEnd hf15) dX5_begin_15
def f_X1_readText (a1 : Int32) (σ : zg_S) : Option (Int32 × zg_S) := zbd (f_X6_held a1 0 96 σ) (fun (r1 : Int32) (σ2 : zg_S) => zlet (zg_up σ2 7 2 r1) (fun (σ8 : zg_S) => zlet (zg_up σ8 7 3 0) (fun (σ14 : zg_S) => zlet (zg_up σ14 7 5 0) (fun (σ20 : zg_S) => zlet (zg_up σ20 7 6 0) (fun (σ26 : zg_S) => zlet (zg_up σ26 7 7 0) (fun (σ32 : zg_S) => zbd (f_X1_advance σ32) (fun (r38 : Int32) (σ39 : zg_S) => zbd (f_X1_keyHere σ39) (fun (r45 : Int32) (σ46 : zg_S) => (if r45 = (-1000000005) then some (σ46 7 4, σ46) else zbd (f_X5_begin 8 r45 σ46) (fun (r56 : Int32) (σ57 : zg_S) => zbd (f_X1_advance σ57) (fun (r63 : Int32) (σ64 : zg_S) => zbd (G_rd 128 0 0 σ64) (fun (r70 : Int32) (σ71 : zg_S) => (if r70 = 0 then some (σ71 7 4, σ71) else (if (σ71 7 3) = 0 then some ((-1000000005), σ71) else some (σ71 7 4, σ71)))))))))))))))
set_option maxHeartbeats 4000000 in
set_option maxRecDepth 100000 in
theorem c_X1_readText (l : Launch) (D : va_G) (V : zz_V) (ad : Nat → Nat) (cA : Nat → ClassId) (a1 : Int32)  (σ : zg_S) (r0 : Int32) (σf : zg_S) (hf : f_X1_readText a1 σ = some (r0, σf)) : zM_I l yX1_readText wsX1_readText 134 3079 D V XL ad cA [.ref (ad 7), .int a1] σ r0 σf := by
  intro sz
  refine Met.ofW (cc := cX1_readText) (maxL := 3) (ret := (some .int)) (by decide) rfl ?_
  intro p e s m args below meth c s₁ B hml hv
  obtain ⟨rfl, hC⟩ := hv
  have hx := B.exec
  have hb := B.bytes
  have hr := B.returns
  have hts := atoms_spec (ws := wsX1_readText) B.pre
  have hown : s.vm.findClass RX1 = some m.cls := findClass_of_methodNamed B.named
  have hlk := B.notSynchronized
  have X : CallFix p m c cX1_readText 3 s _ wsX1_readText RX1 := ⟨hx, hb, hml, hown, hts⟩
  have Z := zz_enter hC
  generalize va_A (zg_W XL ad cA σ) sz = A at Z ⊢
  have hl := lv_entry ([.ref (ad 7), .int a1]) (n := 3) (Nat.le_of_ble_eq_true rfl)
  rw [lg_entry_eq]
  generalize (lg_sl ([.ref (ad 7), .int a1]) ++ List.replicate (3 - (lg_sl ([.ref (ad 7), .int a1])).length) Slot.unset).toArray = ls at hl ⊢
  have hl : lv_has ls 3 [(0, .ref (ad 7)), (1, .int a1)] := hl
  unfold f_X1_readText at hf
  refine lv_aload_n hx hb dX1_readText_0 rfl (lv_at hl 0 rfl) ?_
  refine lv_iload_n hx hb dX1_readText_1 rfl (lv_at hl 1 rfl) ?_
  refine lv_iconst (v := 0) hx hb dX1_readText_2 (by decide) ?_
  refine lv_bipush (v := 96) hx hb dX1_readText_3 (by decide) ?_
  obtain ⟨r1, σ2, hc3, hf4⟩ := zBd hf
  clear hf
  refine zy_ci (r0 := r1) (WS1 := zg_W XL ad cA σ2) (TYS1 := zg_T XL cA) Z (va_runSN (As := [.int a1, .int 0, .int 96]) (rest := [.ref (ad 7)]) X (c_X6_held l D V ad cA a1 0 96 σ r1 σ2 hc3 s.heap.size) ⟨va_cnB 3 hts gX1_readText_X6_held_n22 rfl rfl rfl (zz_nw (q := (RX1, 22, yX6_held, RX6)) Z.2.2.2.2.2 7 rfl) (hts _ (zz_m 10 rfl)) zh_X6_held ⟨Nat.le_of_ble_eq_true rfl, Nat.le_of_ble_eq_true rfl⟩, hts _ (zz_m 9 rfl), trivial⟩ (zz_pS Z) rfl rfl hl.1 rfl (lv_room (Nat.le_of_ble_eq_true rfl)) dX1_readText_5 ⟨Nat.le_of_ble_eq_true rfl, Nat.le_of_ble_eq_true rfl⟩) (fun H5 lo6 Z7 => ?_)
  clear Z hc3
  obtain ⟨σ8, es9, hf10⟩ := zLet hf4
  clear hf4
  refine zy_put (v := r1) (σ' := σ8) X Z7 xL_ok xk_7 rfl rfl (fun w h => List.mem_cons_of_mem _ (List.mem_append_left _ (List.mem_append_right _ h))) tyX1 tyX1_ok nmX1 2 rfl (zz_m 1 rfl) rfl rfl rfl (fun _ => rfl) (fun _ => rfl) es9 dX1_readText_8 (fun H11 lo12 Z13 => ?_)
  clear Z7 es9
  refine lv_aload_n hx hb dX1_readText_11 rfl (lv_at hl 0 rfl) ?_
  refine lv_iconst (v := 0) hx hb dX1_readText_12 (by decide) ?_
  obtain ⟨σ14, es15, hf16⟩ := zLet hf10
  clear hf10
  refine zy_put (v := 0) (σ' := σ14) X Z13 xL_ok xk_7 rfl rfl (fun w h => List.mem_cons_of_mem _ (List.mem_append_left _ (List.mem_append_right _ h))) tyX1 tyX1_ok nmX1 3 rfl (zz_m 2 rfl) rfl rfl rfl (fun _ => rfl) (fun _ => rfl) es15 dX1_readText_13 (fun H17 lo18 Z19 => ?_)
  clear Z13 es15
  refine lv_aload_n hx hb dX1_readText_16 rfl (lv_at hl 0 rfl) ?_
  refine lv_iconst (v := 0) hx hb dX1_readText_17 (by decide) ?_
  obtain ⟨σ20, es21, hf22⟩ := zLet hf16
  clear hf16
  refine zy_put (v := 0) (σ' := σ20) X Z19 xL_ok xk_7 rfl rfl (fun w h => List.mem_cons_of_mem _ (List.mem_append_left _ (List.mem_append_right _ h))) tyX1 tyX1_ok nmX1 5 rfl (zz_m 3 rfl) rfl rfl rfl (fun _ => rfl) (fun _ => rfl) es21 dX1_readText_18 (fun H23 lo24 Z25 => ?_)
  clear Z19 es21
  refine lv_aload_n hx hb dX1_readText_21 rfl (lv_at hl 0 rfl) ?_
  refine lv_iconst (v := 0) hx hb dX1_readText_22 (by decide) ?_
  obtain ⟨σ26, es27, hf28⟩ := zLet hf22
  clear hf22
  refine zy_put (v := 0) (σ' := σ26) X Z25 xL_ok xk_7 rfl rfl (fun w h => List.mem_cons_of_mem _ (List.mem_append_left _ (List.mem_append_right _ h))) tyX1 tyX1_ok nmX1 6 rfl (zz_m 4 rfl) rfl rfl rfl (fun _ => rfl) (fun _ => rfl) es27 dX1_readText_23 (fun H29 lo30 Z31 => ?_)
  clear Z25 es27
  refine lv_aload_n hx hb dX1_readText_26 rfl (lv_at hl 0 rfl) ?_
  refine lv_iconst (v := 0) hx hb dX1_readText_27 (by decide) ?_
  obtain ⟨σ32, es33, hf34⟩ := zLet hf28
  clear hf28
  refine zy_put (v := 0) (σ' := σ32) X Z31 xL_ok xk_7 rfl rfl (fun w h => List.mem_cons_of_mem _ (List.mem_append_left _ (List.mem_append_right _ h))) tyX1 tyX1_ok nmX1 7 rfl (zz_m 5 rfl) rfl rfl rfl (fun _ => rfl) (fun _ => rfl) es33 dX1_readText_28 (fun H35 lo36 Z37 => ?_)
  clear Z31 es33
  refine lv_aload_n hx hb dX1_readText_31 rfl (lv_at hl 0 rfl) ?_
  obtain ⟨r38, σ39, hc40, hf41⟩ := zBd hf34
  clear hf34
  refine zy_cv (WS1 := zg_W XL ad cA σ39) (TYS1 := zg_T XL cA) Z37 (va_runV (As := []) (rest := []) X (c_X1_advance l D V ad cA  σ32 r38 σ39 hc40 H35.size) (cwV 0 hts gX1_readText_X1_advance rfl rfl rfl ⟨rfl, zh_X1_advance⟩ ⟨Nat.le_of_ble_eq_true rfl, Nat.le_of_ble_eq_true rfl⟩) (zy_pV (ci := 1) Z37 xL_ok xk_7 rfl rfl) rfl rfl hl.1 rfl (lv_room (Nat.le_of_ble_eq_true rfl)) dX1_readText_32 ⟨Nat.le_of_ble_eq_true rfl, Nat.le_of_ble_eq_true rfl⟩) (fun H42 lo43 Z44 => ?_)
  clear Z37 hc40
  refine lv_aload_n hx hb dX1_readText_35 rfl (lv_at hl 0 rfl) ?_
  obtain ⟨r45, σ46, hc47, hf48⟩ := zBd hf41
  clear hf41
  refine zy_ci (r0 := r45) (WS1 := zg_W XL ad cA σ46) (TYS1 := zg_T XL cA) Z44 (va_runV (As := []) (rest := []) X (c_X1_keyHere l D V ad cA  σ39 r45 σ46 hc47 H42.size) (cwV 0 hts gX1_readText_X1_keyHere rfl rfl rfl ⟨rfl, zh_X1_keyHere⟩ ⟨Nat.le_of_ble_eq_true rfl, Nat.le_of_ble_eq_true rfl⟩) (zy_pV (ci := 1) Z44 xL_ok xk_7 rfl rfl) rfl rfl hl.1 rfl (lv_room (Nat.le_of_ble_eq_true rfl)) dX1_readText_36 ⟨Nat.le_of_ble_eq_true rfl, Nat.le_of_ble_eq_true rfl⟩) (fun H49 lo50 Z51 => ?_)
  clear Z44 hc47
  refine lv_istore_n (lv' := [(2, .int r45), (0, .ref (ad 7)), (1, .int a1)]) hx hb dX1_readText_39 rfl hl (by decide) rfl (fun ls53 hl52 => ?_)
  clear hl
  refine lv_iload_n hx hb dX1_readText_40 rfl (lv_at hl52 0 rfl) ?_
  refine lv_ldc (v := (-1000000005)) hx hb hown (hts _ (zz_m 6 rfl)) dX1_readText_41 ?_
  refine lv_icmp_ne (tgt := 51) hx hb dX1_readText_43 (by decide) (fun b54 => ?_) (fun b54 => ?_)
  · have hf55 := zNot hf48 b54
    clear hf48
    refine lv_aload_n hx hb dX1_readText_51 rfl (lv_at hl52 1 rfl) ?_
    refine zy_get (v := .ref (ad 8)) X Z51 xL_ok xk_7 rfl rfl (fun w h => List.mem_cons_of_mem _ (List.mem_append_left _ (List.mem_append_right _ h))) 1 rfl (zz_m 8 rfl) rfl dX1_readText_52 ?_
    refine lv_iload_n hx hb dX1_readText_55 rfl (lv_at hl52 0 rfl) ?_
    obtain ⟨r56, σ57, hc58, hf59⟩ := zBd hf55
    clear hf55
    refine zy_cv (WS1 := zg_W XL ad cA σ57) (TYS1 := zg_T XL cA) Z51 (va_runV (As := [.int r45]) (rest := []) X (c_X5_begin l D V ad cA 8 r45 xk_8 σ46 r56 σ57 hc58 H49.size) (cwV 1 hts gX1_readText_X5_begin rfl rfl rfl ⟨rfl, zh_X5_begin⟩ ⟨Nat.le_of_ble_eq_true rfl, Nat.le_of_ble_eq_true rfl⟩) (zy_pV (ci := 5) Z51 xL_ok xk_8 rfl rfl) rfl rfl hl52.1 rfl (lv_room (Nat.le_of_ble_eq_true rfl)) dX1_readText_56 ⟨Nat.le_of_ble_eq_true rfl, Nat.le_of_ble_eq_true rfl⟩) (fun H60 lo61 Z62 => ?_)
    clear Z51 hc58
    refine lv_aload_n hx hb dX1_readText_59 rfl (lv_at hl52 1 rfl) ?_
    obtain ⟨r63, σ64, hc65, hf66⟩ := zBd hf59
    clear hf59
    refine zy_cv (WS1 := zg_W XL ad cA σ64) (TYS1 := zg_T XL cA) Z62 (va_runV (As := []) (rest := []) X (c_X1_advance l D V ad cA  σ57 r63 σ64 hc65 H60.size) (cwV 0 hts gX1_readText_X1_advance rfl rfl rfl ⟨rfl, zh_X1_advance⟩ ⟨Nat.le_of_ble_eq_true rfl, Nat.le_of_ble_eq_true rfl⟩) (zy_pV (ci := 1) Z62 xL_ok xk_7 rfl rfl) rfl rfl hl52.1 rfl (lv_room (Nat.le_of_ble_eq_true rfl)) dX1_readText_60 ⟨Nat.le_of_ble_eq_true rfl, Nat.le_of_ble_eq_true rfl⟩) (fun H67 lo68 Z69 => ?_)
    clear Z62 hc65
    refine lv_aload_n hx hb dX1_readText_63 rfl (lv_at hl52 1 rfl) ?_
    refine lv_iconst (v := 0) hx hb dX1_readText_64 (by decide) ?_
    obtain ⟨r70, σ71, hc72, hf73⟩ := zBd hf66
    clear hf66
    refine zy_ci (r0 := r70) (WS1 := zg_W XL ad cA σ71) (TYS1 := zg_T XL cA) Z69 (va_runV (As := [.int 0]) (rest := []) X (((c_G_rd l D V ad cA 128).1) 0 σ64 r70 σ71 hc72 H67.size) (cwV 1 hts gX1_readText_X1_readLevel rfl rfl rfl ⟨rfl, zh_X1_readLevel⟩ ⟨Nat.le_of_ble_eq_true rfl, Nat.le_of_ble_eq_true rfl⟩) (zy_pV (ci := 1) Z69 xL_ok xk_7 rfl rfl) rfl rfl hl52.1 rfl (lv_room (Nat.le_of_ble_eq_true rfl)) dX1_readText_65 ⟨Nat.le_of_ble_eq_true rfl, Nat.le_of_ble_eq_true rfl⟩) (fun H74 lo75 Z76 => ?_)
    clear Z69 hc72
    refine lv_if_eq (tgt := 83) hx hb dX1_readText_68 (by decide) (fun b77 => ?_) (fun b77 => ?_)
    · have hf78 := zYes hf73 b77
      clear hf73
      refine lv_aload_n hx hb dX1_readText_83 rfl (lv_at hl52 1 rfl) ?_
      refine zy_get (v := .int (σ71 7 4)) X Z76 xL_ok xk_7 rfl rfl (fun w h => List.mem_cons_of_mem _ (List.mem_append_left _ (List.mem_append_right _ h))) 4 rfl (zz_m 7 rfl) rfl dX1_readText_84 ?_
      exact zy_iret X hr hlk Z76 (zEnd hf78) dX1_readText_87
    · have hf79 := zNot hf73 b77
      clear hf73
      refine lv_aload_n hx hb dX1_readText_71 rfl (lv_at hl52 1 rfl) ?_
      refine zy_get (v := .int (σ71 7 3)) X Z76 xL_ok xk_7 rfl rfl (fun w h => List.mem_cons_of_mem _ (List.mem_append_left _ (List.mem_append_right _ h))) 3 rfl (zz_m 2 rfl) rfl dX1_readText_72 ?_
      refine lv_if_ne (tgt := 83) hx hb dX1_readText_75 (by decide) (fun b80 => ?_) (fun b80 => ?_)
      · have hf81 := zNot hf79 b80
        clear hf79
        refine lv_aload_n hx hb dX1_readText_83 rfl (lv_at hl52 1 rfl) ?_
        refine zy_get (v := .int (σ71 7 4)) X Z76 xL_ok xk_7 rfl rfl (fun w h => List.mem_cons_of_mem _ (List.mem_append_left _ (List.mem_append_right _ h))) 4 rfl (zz_m 7 rfl) rfl dX1_readText_84 ?_
        exact zy_iret X hr hlk Z76 (zEnd hf81) dX1_readText_87
      · have hf82 := zYes hf79 b80
        clear hf79
        refine lv_ldc (v := (-1000000005)) hx hb hown (hts _ (zz_m 6 rfl)) dX1_readText_78 ?_
        refine lv_goto (tgt := 87) hx hb dX1_readText_80 (by decide) ?_
        exact zy_iret X hr hlk Z76 (zEnd hf82) dX1_readText_87
  · have hf83 := zYes hf48 b54
    clear hf48
    refine lv_aload_n hx hb dX1_readText_46 rfl (lv_at hl52 1 rfl) ?_
    refine zy_get (v := .int (σ46 7 4)) X Z51 xL_ok xk_7 rfl rfl (fun w h => List.mem_cons_of_mem _ (List.mem_append_left _ (List.mem_append_right _ h))) 4 rfl (zz_m 7 rfl) rfl dX1_readText_47 ?_
    exact zy_iret X hr hlk Z51 (zEnd hf83) dX1_readText_50
def B_X2_become_18 (q0 : Nat) (a1 : Int32) (a2 : Int32) (rec18_ : Int32 → zg_S → Option (Int32 × zg_S)) (x3 : Int32) (σ : zg_S) : Option (Int32 × zg_S) := (if 24 ≤ x3 then some (0, σ) else (if zin x3 24 = true then zlet (zg_up σ (q0 + 1) (Int32.toNatClampNeg x3) 0) (fun (σ7 : zg_S) => rec18_ (x3 + 1) σ7) else none))
def L_X2_become_18 (q0 : Nat) (a1 : Int32) (a2 : Int32) : Nat → Int32 → zg_S → Option (Int32 × zg_S) := zfix (fun _ _ => none) (B_X2_become_18 q0 a1 a2)
def f_X2_become (q0 : Nat) (a1 : Int32) (a2 : Int32) (σ : zg_S) : Option (Int32 × zg_S) := zlet (zg_up σ q0 0 a1) (fun (σ15 : zg_S) => zbd (f_X6_held a2 0 24 σ15) (fun (r21 : Int32) (σ22 : zg_S) => zlet (zg_up σ22 q0 1 r21) (fun (σ28 : zg_S) => L_X2_become_18 q0 a1 a2 zfu 0 σ28)))
set_option maxHeartbeats 4000000 in
set_option maxRecDepth 100000 in
theorem c_X2_become (l : Launch) (D : va_G) (V : zz_V) (ad : Nat → Nat) (cA : Nat → ClassId) (q0 : Nat) (a1 : Int32) (a2 : Int32) (hq0 : XL.2.1 q0 = 2) (σ : zg_S) (r0 : Int32) (σf : zg_S) (hf : f_X2_become q0 a1 a2 σ = some (r0, σf)) : zM_V l yX2_become wsX2_become 2 46 D V XL ad cA [.ref (ad q0), .int a1, .int a2] σ r0 σf := by
  intro sz
  refine Met.ofW (cc := cX2_become) (maxL := 4) (ret := none) (by decide) rfl ?_
  intro p e s m args below meth c s₁ B hml hv
  obtain ⟨rfl, hC⟩ := hv
  have hx := B.exec
  have hb := B.bytes
  have hr := B.returns
  have hts := atoms_spec (ws := wsX2_become) B.pre
  have hown : s.vm.findClass RX2 = some m.cls := findClass_of_methodNamed B.named
  have hlk := B.notSynchronized
  have X : CallFix p m c cX2_become 4 s _ wsX2_become RX2 := ⟨hx, hb, hml, hown, hts⟩
  have Z := zz_enter hC
  generalize va_A (zg_W XL ad cA σ) sz = A at Z ⊢
  have hl := lv_entry ([.ref (ad q0), .int a1, .int a2]) (n := 4) (Nat.le_of_ble_eq_true rfl)
  rw [lg_entry_eq]
  generalize (lg_sl ([.ref (ad q0), .int a1, .int a2]) ++ List.replicate (4 - (lg_sl ([.ref (ad q0), .int a1, .int a2])).length) Slot.unset).toArray = ls at hl ⊢
  have hl : lv_has ls 4 [(0, .ref (ad q0)), (1, .int a1), (2, .int a2)] := hl
  unfold f_X2_become at hf
  have b18_ : ∀ (k18_ : Nat) (x3 : Int32) (σ : zg_S), L_X2_become_18 q0 a1 a2 k18_ x3 σ = some (r0, σf) → ∀ (H : Heap) (locs : List Loc) (ls : Array Slot), zz_S D V A s (zg_W XL ad cA σ) (zg_T XL cA) H locs → lv_has ls 4 [(0, .ref (ad q0)), (3, .int x3)] → W p l e (headSpec wsX2_become { frames := 2, cells := 0, slots := 0, locals := 46 }).room s m (List.toArray [.ref (ad q0), .int a1, .int a2]) below meth c H locs 0 0 (MQ below (va_Qv (fun (_ : Unit) => True) (fun _ t => zz_B D A (zg_W XL ad cA σf) (zg_T XL cA) t) A) (List.toArray [.ref (ad q0), .int a1, .int a2]) s 0 0 A) (F0 m 18 ls []) := by
    intro k18_
    induction k18_ with
    | zero =>
        intro x3 σ hf18_ H18_ locs18_ ls18_ Z18_ hl18_
        exact zNone hf18_
    | succ k18_ ih18_ =>
        intro x3 σ hf18_ H18_ locs18_ ls18_ Z18_ hl18_
        replace hf18_ : B_X2_become_18 q0 a1 a2 (L_X2_become_18 q0 a1 a2 k18_) x3 σ = some (r0, σf) := hf18_
        unfold B_X2_become_18 at hf18_
        refine lv_iload_n hx hb dX2_become_18 rfl (lv_at hl18_ 1 rfl) ?_
        refine lv_bipush (v := 24) hx hb dX2_become_19 (by decide) ?_
        refine lv_icmp_ge (tgt := 37) hx hb dX2_become_21 (by decide) (fun b1 => ?_) (fun b1 => ?_)
        · have hf2 := zYes hf18_ b1
          clear hf18_
          exact zy_vret X hr hlk Z18_ (zEnd hf2) dX2_become_37
        · have hf3 := zNot hf18_ b1
          clear hf18_
          refine lv_aload_n hx hb dX2_become_24 rfl (lv_at hl18_ 0 rfl) ?_
          refine zy_get (v := .ref (ad (q0 + 1))) X Z18_ xL_ok hq0 rfl rfl (fun w h => List.mem_cons_of_mem _ (List.mem_append_right _ h)) 2 rfl (zz_m 3 rfl) rfl dX2_become_25 ?_
          refine lv_iload_n hx hb dX2_become_28 rfl (lv_at hl18_ 1 rfl) ?_
          refine lv_iconst (v := 0) hx hb dX2_become_29 (by decide) ?_
          obtain ⟨⟨i4, j5⟩, hf6⟩ := zG hf3
          clear hf3
          obtain ⟨σ7, es8, hf9⟩ := zLet hf6
          clear hf6
          refine zy_ist (σ' := σ7) X Z18_ xL_ok (xH1 hq0) (xH1l hq0) i4 es8 dX2_become_30 (fun H10 lo11 Z12 => ?_)
          clear Z18_ es8
          refine lv_iinc (v := (x3 + 1)) (lv' := [(3, .int (x3 + 1)), (0, .ref (ad q0))]) hx hb dX2_become_31 hl18_ (k := 1) rfl rfl (by decide) rfl (fun ls14 hl13 => ?_)
          clear hl18_
          refine lv_goto (tgt := 18) hx hb dX2_become_34 (by decide) ?_
          exact ih18_ (x3 + 1) σ7 hf9 _ _ _ Z12 (lv_sub hl13 [1, 0] rfl)
  refine lv_aload_n hx hb dX2_become_0 rfl (lv_at hl 0 rfl) ?_
  refine lv_iload_n hx hb dX2_become_1 rfl (lv_at hl 1 rfl) ?_
  obtain ⟨σ15, es16, hf17⟩ := zLet hf
  clear hf
  refine zy_put (v := a1) (σ' := σ15) X Z xL_ok hq0 rfl rfl (fun w h => List.mem_cons_of_mem _ (List.mem_append_right _ h)) tyX2 tyX2_ok nmX2 0 rfl (zz_m 1 rfl) rfl rfl rfl (fun _ => rfl) (fun _ => rfl) es16 dX2_become_2 (fun H18 lo19 Z20 => ?_)
  clear Z es16
  refine lv_aload_n hx hb dX2_become_5 rfl (lv_at hl 0 rfl) ?_
  refine lv_iload_n hx hb dX2_become_6 rfl (lv_at hl 2 rfl) ?_
  refine lv_iconst (v := 0) hx hb dX2_become_7 (by decide) ?_
  refine lv_bipush (v := 24) hx hb dX2_become_8 (by decide) ?_
  obtain ⟨r21, σ22, hc23, hf24⟩ := zBd hf17
  clear hf17
  refine zy_ci (r0 := r21) (WS1 := zg_W XL ad cA σ22) (TYS1 := zg_T XL cA) Z20 (va_runSN (As := [.int a2, .int 0, .int 24]) (rest := [.ref (ad q0)]) X (c_X6_held l D V ad cA a2 0 24 σ15 r21 σ22 hc23 H18.size) ⟨va_cnB 3 hts gX2_become_X6_held_n19 rfl rfl rfl (zz_nw (q := (RX2, 19, yX6_held, RX6)) Z20.2.2.2.2.2 9 rfl) (hts _ (zz_m 5 rfl)) zh_X6_held ⟨Nat.le_of_ble_eq_true rfl, Nat.le_of_ble_eq_true rfl⟩, hts _ (zz_m 4 rfl), trivial⟩ (zz_pS Z20) rfl rfl hl.1 rfl (lv_room (Nat.le_of_ble_eq_true rfl)) dX2_become_10 ⟨Nat.le_of_ble_eq_true rfl, Nat.le_of_ble_eq_true rfl⟩) (fun H25 lo26 Z27 => ?_)
  clear Z20 hc23
  obtain ⟨σ28, es29, hf30⟩ := zLet hf24
  clear hf24
  refine zy_put (v := r21) (σ' := σ28) X Z27 xL_ok hq0 rfl rfl (fun w h => List.mem_cons_of_mem _ (List.mem_append_right _ h)) tyX2 tyX2_ok nmX2 1 rfl (zz_m 2 rfl) rfl rfl rfl (fun _ => rfl) (fun _ => rfl) es29 dX2_become_13 (fun H31 lo32 Z33 => ?_)
  clear Z27 es29
  refine lv_iconst (v := 0) hx hb dX2_become_16 (by decide) ?_
  refine lv_istore_n (lv' := [(3, .int 0), (0, .ref (ad q0)), (1, .int a1), (2, .int a2)]) hx hb dX2_become_17 rfl hl (by decide) rfl (fun ls35 hl34 => ?_)
  clear hl
  exact b18_ zfu 0 σ28 hf30 _ _ _ Z33 (lv_sub hl34 [1, 0] rfl)
def f_X2_hasPlaces (q0 : Nat) (a1 : Int32) (a2 : Int32) (σ : zg_S) : Option (Int32 × zg_S) := (if a1 < 0 then some (0, σ) else (if a2 < 0 then some (0, σ) else (if 0 < (lg_cmp ((Int32.toInt64 a1) + (Int32.toInt64 a2)) (Int32.toInt64 (σ q0 1))) then some (0, σ) else some (1, σ))))
set_option maxHeartbeats 4000000 in
set_option maxRecDepth 100000 in
theorem c_X2_hasPlaces (l : Launch) (D : va_G) (V : zz_V) (ad : Nat → Nat) (cA : Nat → ClassId) (q0 : Nat) (a1 : Int32) (a2 : Int32) (hq0 : XL.2.1 q0 = 2) (σ : zg_S) (r0 : Int32) (σf : zg_S) (hf : f_X2_hasPlaces q0 a1 a2 σ = some (r0, σf)) : zM_I l yX2_hasPlaces wsX2_hasPlaces 0 0 D V XL ad cA [.ref (ad q0), .int a1, .int a2] σ r0 σf := by
  intro sz
  refine Met.ofW (cc := cX2_hasPlaces) (maxL := 3) (ret := (some .boolean)) (by decide) rfl ?_
  intro p e s m args below meth c s₁ B hml hv
  obtain ⟨rfl, hC⟩ := hv
  have hx := B.exec
  have hb := B.bytes
  have hr := B.returns
  have hts := atoms_spec (ws := wsX2_hasPlaces) B.pre
  have hown : s.vm.findClass RX2 = some m.cls := findClass_of_methodNamed B.named
  have hlk := B.notSynchronized
  have X : CallFix p m c cX2_hasPlaces 3 s _ wsX2_hasPlaces RX2 := ⟨hx, hb, hml, hown, hts⟩
  have Z := zz_enter hC
  generalize va_A (zg_W XL ad cA σ) sz = A at Z ⊢
  have hl := lv_entry ([.ref (ad q0), .int a1, .int a2]) (n := 3) (Nat.le_of_ble_eq_true rfl)
  rw [lg_entry_eq]
  generalize (lg_sl ([.ref (ad q0), .int a1, .int a2]) ++ List.replicate (3 - (lg_sl ([.ref (ad q0), .int a1, .int a2])).length) Slot.unset).toArray = ls at hl ⊢
  have hl : lv_has ls 3 [(0, .ref (ad q0)), (1, .int a1), (2, .int a2)] := hl
  unfold f_X2_hasPlaces at hf
  refine lv_iload_n hx hb dX2_hasPlaces_0 rfl (lv_at hl 1 rfl) ?_
  refine lv_if_lt (tgt := 26) hx hb dX2_hasPlaces_1 (by decide) (fun b1 => ?_) (fun b1 => ?_)
  · have hf2 := zYes hf b1
    clear hf
    refine lv_iconst (v := 0) hx hb dX2_hasPlaces_26 (by decide) ?_
    exact zy_zret X hr hlk Z (by decide) (zEnd hf2) dX2_hasPlaces_27
  · have hf3 := zNot hf b1
    clear hf
    refine lv_iload_n hx hb dX2_hasPlaces_4 rfl (lv_at hl 2 rfl) ?_
    refine lv_if_lt (tgt := 26) hx hb dX2_hasPlaces_5 (by decide) (fun b4 => ?_) (fun b4 => ?_)
    · have hf5 := zYes hf3 b4
      clear hf3
      refine lv_iconst (v := 0) hx hb dX2_hasPlaces_26 (by decide) ?_
      exact zy_zret X hr hlk Z (by decide) (zEnd hf5) dX2_hasPlaces_27
    · have hf6 := zNot hf3 b4
      clear hf3
      refine lv_iload_n hx hb dX2_hasPlaces_8 rfl (lv_at hl 1 rfl) ?_
      refine lv_i2l (v := Int32.toInt64 a1) hx hb dX2_hasPlaces_9 rfl ?_
      refine lv_iload_n hx hb dX2_hasPlaces_10 rfl (lv_at hl 2 rfl) ?_
      refine lv_i2l (v := Int32.toInt64 a2) hx hb dX2_hasPlaces_11 rfl ?_
      refine lv_ladd hx hb dX2_hasPlaces_12 ?_
      refine lv_aload_n hx hb dX2_hasPlaces_13 rfl (lv_at hl 0 rfl) ?_
      refine zy_get (v := .int (σ q0 1)) X Z xL_ok hq0 rfl rfl (fun w h => List.mem_cons_of_mem _ (List.mem_append_right _ h)) 1 rfl (zz_m 1 rfl) rfl dX2_hasPlaces_14 ?_
      refine lv_i2l (v := Int32.toInt64 (σ q0 1)) hx hb dX2_hasPlaces_17 rfl ?_
      refine W.lcmp hx hb dX2_hasPlaces_18 ?_
      refine lv_if_gt (tgt := 26) hx hb dX2_hasPlaces_19 (by decide) (fun b7 => ?_) (fun b7 => ?_)
      · have hf8 := zYes hf6 b7
        clear hf6
        refine lv_iconst (v := 0) hx hb dX2_hasPlaces_26 (by decide) ?_
        exact zy_zret X hr hlk Z (by decide) (zEnd hf8) dX2_hasPlaces_27
      · have hf9 := zNot hf6 b7
        clear hf6
        refine lv_iconst (v := 1) hx hb dX2_hasPlaces_22 (by decide) ?_
        refine lv_goto (tgt := 27) hx hb dX2_hasPlaces_23 (by decide) ?_
        exact zy_zret X hr hlk Z (by decide) (zEnd hf9) dX2_hasPlaces_27
def f_X2_isMissing (q0 : Nat) (σ : zg_S) : Option (Int32 × zg_S) := (if (σ q0 0) = (-1) then some (1, σ) else some (0, σ))
set_option maxHeartbeats 4000000 in
set_option maxRecDepth 100000 in
theorem c_X2_isMissing (l : Launch) (D : va_G) (V : zz_V) (ad : Nat → Nat) (cA : Nat → ClassId) (q0 : Nat) (hq0 : XL.2.1 q0 = 2) (σ : zg_S) (r0 : Int32) (σf : zg_S) (hf : f_X2_isMissing q0 σ = some (r0, σf)) : zM_I l yX2_isMissing wsX2_isMissing 0 0 D V XL ad cA [.ref (ad q0)] σ r0 σf := by
  intro sz
  refine Met.ofW (cc := cX2_isMissing) (maxL := 1) (ret := (some .boolean)) (by decide) rfl ?_
  intro p e s m args below meth c s₁ B hml hv
  obtain ⟨rfl, hC⟩ := hv
  have hx := B.exec
  have hb := B.bytes
  have hr := B.returns
  have hts := atoms_spec (ws := wsX2_isMissing) B.pre
  have hown : s.vm.findClass RX2 = some m.cls := findClass_of_methodNamed B.named
  have hlk := B.notSynchronized
  have X : CallFix p m c cX2_isMissing 1 s _ wsX2_isMissing RX2 := ⟨hx, hb, hml, hown, hts⟩
  have Z := zz_enter hC
  generalize va_A (zg_W XL ad cA σ) sz = A at Z ⊢
  have hl := lv_entry ([.ref (ad q0)]) (n := 1) (Nat.le_of_ble_eq_true rfl)
  rw [lg_entry_eq]
  generalize (lg_sl ([.ref (ad q0)]) ++ List.replicate (1 - (lg_sl ([.ref (ad q0)])).length) Slot.unset).toArray = ls at hl ⊢
  have hl : lv_has ls 1 [(0, .ref (ad q0))] := hl
  unfold f_X2_isMissing at hf
  refine lv_aload_n hx hb dX2_isMissing_0 rfl (lv_at hl 0 rfl) ?_
  refine zy_get (v := .int (σ q0 0)) X Z xL_ok hq0 rfl rfl (fun w h => List.mem_cons_of_mem _ (List.mem_append_right _ h)) 0 rfl (zz_m 1 rfl) rfl dX2_isMissing_1 ?_
  refine lv_iconst (v := (-1)) hx hb dX2_isMissing_4 (by decide) ?_
  refine lv_icmp_ne (tgt := 12) hx hb dX2_isMissing_5 (by decide) (fun b1 => ?_) (fun b1 => ?_)
  · have hf2 := zNot hf b1
    clear hf
    refine lv_iconst (v := 0) hx hb dX2_isMissing_12 (by decide) ?_
    exact zy_zret X hr hlk Z (by decide) (zEnd hf2) dX2_isMissing_13
  · have hf3 := zYes hf b1
    clear hf
    refine lv_iconst (v := 1) hx hb dX2_isMissing_8 (by decide) ?_
    refine lv_goto (tgt := 13) hx hb dX2_isMissing_9 (by decide) ?_
    exact zy_zret X hr hlk Z (by decide) (zEnd hf3) dX2_isMissing_13
def f_X2_takeOver (q0 : Nat) (q1 : Nat) (σ : zg_S) : Option (Int32 × zg_S) := zlet (zg_up σ q0 0 (σ q1 0)) (fun (σ1 : zg_S) => zlet (zg_up σ1 q0 1 (σ1 q1 1)) (fun (σ7 : zg_S) => (if (¬ (0 : Int32) < 0 ∧ ¬ (0 : Int32) < 0 ∧ ¬ (24 : Int32) < 0 ∧ Int32.toNatClampNeg 0 + Int32.toNatClampNeg 24 ≤ 24 ∧ Int32.toNatClampNeg 0 + Int32.toNatClampNeg 24 ≤ 24) then zlet (zg_row σ7 (q0 + 1) (va_cpy (σ7 (q1 + 1)) (σ7 (q0 + 1)) (Int32.toNatClampNeg 0) (Int32.toNatClampNeg 0) (Int32.toNatClampNeg 24))) (fun (σ19 : zg_S) => some (0, σ19)) else none)))
set_option maxHeartbeats 4000000 in
set_option maxRecDepth 100000 in
theorem c_X2_takeOver (l : Launch) (D : va_G) (V : zz_V) (ad : Nat → Nat) (cA : Nat → ClassId) (q0 : Nat) (q1 : Nat) (hq0 : XL.2.1 q0 = 2) (hq1 : XL.2.1 q1 = 2) (σ : zg_S) (r0 : Int32) (σf : zg_S) (hf : f_X2_takeOver q0 q1 σ = some (r0, σf)) : zM_V l yX2_takeOver wsX2_takeOver 1 60 D V XL ad cA [.ref (ad q0), .ref (ad q1)] σ r0 σf := by
  intro sz
  refine Met.ofW (cc := cX2_takeOver) (maxL := 2) (ret := none) (by decide) rfl ?_
  intro p e s m args below meth c s₁ B hml hv
  obtain ⟨rfl, hC⟩ := hv
  have hx := B.exec
  have hb := B.bytes
  have hr := B.returns
  have hts := atoms_spec (ws := wsX2_takeOver) B.pre
  have hown : s.vm.findClass RX2 = some m.cls := findClass_of_methodNamed B.named
  have hlk := B.notSynchronized
  have X : CallFix p m c cX2_takeOver 2 s _ wsX2_takeOver RX2 := ⟨hx, hb, hml, hown, hts⟩
  have Z := zz_enter hC
  generalize va_A (zg_W XL ad cA σ) sz = A at Z ⊢
  have hl := lv_entry ([.ref (ad q0), .ref (ad q1)]) (n := 2) (Nat.le_of_ble_eq_true rfl)
  rw [lg_entry_eq]
  generalize (lg_sl ([.ref (ad q0), .ref (ad q1)]) ++ List.replicate (2 - (lg_sl ([.ref (ad q0), .ref (ad q1)])).length) Slot.unset).toArray = ls at hl ⊢
  have hl : lv_has ls 2 [(0, .ref (ad q0)), (1, .ref (ad q1))] := hl
  unfold f_X2_takeOver at hf
  refine lv_aload_n hx hb dX2_takeOver_0 rfl (lv_at hl 0 rfl) ?_
  refine lv_aload_n hx hb dX2_takeOver_1 rfl (lv_at hl 1 rfl) ?_
  refine zy_get (v := .int (σ q1 0)) X Z xL_ok hq1 rfl rfl (fun w h => List.mem_cons_of_mem _ (List.mem_append_right _ h)) 0 rfl (zz_m 1 rfl) rfl dX2_takeOver_2 ?_
  obtain ⟨σ1, es2, hf3⟩ := zLet hf
  clear hf
  refine zy_put (v := σ q1 0) (σ' := σ1) X Z xL_ok hq0 rfl rfl (fun w h => List.mem_cons_of_mem _ (List.mem_append_right _ h)) tyX2 tyX2_ok nmX2 0 rfl (zz_m 1 rfl) rfl rfl rfl (fun _ => rfl) (fun _ => rfl) es2 dX2_takeOver_5 (fun H4 lo5 Z6 => ?_)
  clear Z es2
  refine lv_aload_n hx hb dX2_takeOver_8 rfl (lv_at hl 0 rfl) ?_
  refine lv_aload_n hx hb dX2_takeOver_9 rfl (lv_at hl 1 rfl) ?_
  refine zy_get (v := .int (σ1 q1 1)) X Z6 xL_ok hq1 rfl rfl (fun w h => List.mem_cons_of_mem _ (List.mem_append_right _ h)) 1 rfl (zz_m 2 rfl) rfl dX2_takeOver_10 ?_
  obtain ⟨σ7, es8, hf9⟩ := zLet hf3
  clear hf3
  refine zy_put (v := σ1 q1 1) (σ' := σ7) X Z6 xL_ok hq0 rfl rfl (fun w h => List.mem_cons_of_mem _ (List.mem_append_right _ h)) tyX2 tyX2_ok nmX2 1 rfl (zz_m 2 rfl) rfl rfl rfl (fun _ => rfl) (fun _ => rfl) es8 dX2_takeOver_13 (fun H10 lo11 Z12 => ?_)
  clear Z6 es8
  refine lv_aload_n hx hb dX2_takeOver_16 rfl (lv_at hl 1 rfl) ?_
  refine zy_get (v := .ref (ad (q1 + 1))) X Z12 xL_ok hq1 rfl rfl (fun w h => List.mem_cons_of_mem _ (List.mem_append_right _ h)) 2 rfl (zz_m 3 rfl) rfl dX2_takeOver_17 ?_
  refine lv_iconst (v := 0) hx hb dX2_takeOver_20 (by decide) ?_
  refine lv_aload_n hx hb dX2_takeOver_21 rfl (lv_at hl 0 rfl) ?_
  refine zy_get (v := .ref (ad (q0 + 1))) X Z12 xL_ok hq0 rfl rfl (fun w h => List.mem_cons_of_mem _ (List.mem_append_right _ h)) 2 rfl (zz_m 3 rfl) rfl dX2_takeOver_22 ?_
  refine lv_iconst (v := 0) hx hb dX2_takeOver_25 (by decide) ?_
  refine lv_bipush (v := 24) hx hb dX2_takeOver_26 (by decide) ?_
  obtain ⟨⟨z13, z14, z15, z16, z17⟩, hf18⟩ := zC hf9
  clear hf9
  obtain ⟨σ19, es20, hf21⟩ := zLet hf18
  clear hf18
  refine zy_cpy (σ' := σ19) X (by rw [hml]; exact hl.1.symm) Z12 xL_ok (zz_m 4 rfl) (zz_m 5 rfl) (zz_m 6 rfl) (zz_m 7 rfl) (xH1 hq1) (xH1l hq1) (xH1 hq0) (xH1l hq0) z13 z14 z15 z16 z17 (Nat.le_of_ble_eq_true rfl) (Nat.le_of_ble_eq_true rfl) es20 dX2_takeOver_28 (fun H22 lo23 Z24 => ?_)
  clear Z12 es20
  exact zy_vret X hr hlk Z24 (zEnd hf21) dX2_takeOver_31
