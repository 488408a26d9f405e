def f_X7_isIn (a0 : Int64) (a2 : Int64) (a4 : Int64) (σ : zg_S) : Option (Int32 × zg_S) := (if (lg_cmp a0 a2) < 0 then some (0, σ) else (if 0 < (lg_cmp a0 a4) then some (0, σ) else some (1, σ)))
set_option maxHeartbeats 4000000 in
set_option maxRecDepth 100000 in
theorem c_X7_isIn (l : Launch) (D : va_G) (V : zz_V) (ad : Nat → Nat) (cA : Nat → ClassId) (a0 : Int64) (a2 : Int64) (a4 : Int64)  (σ : zg_S) (r0 : Int32) (σf : zg_S) (hf : f_X7_isIn a0 a2 a4 σ = some (r0, σf)) : zM_I l yX7_isIn wsX7_isIn 0 0 D V ML ad cA [.long a0, .long a2, .long a4] σ r0 σf := by
  intro sz
  refine Met.ofW (cc := cX7_isIn) (maxL := 6) (ret := (some .boolean)) (by decide) rfl ?_
  intro p e s m args below meth c s₁ B hml hv
  obtain ⟨rfl, hC⟩ := hv
  have hx := B.exec
  have hb := B.bytes
  have hr := B.returns
  have hts := atoms_spec (ws := wsX7_isIn) B.pre
  have hown : s.vm.findClass RX7 = some m.cls := findClass_of_methodNamed B.named
  have hlk := B.notSynchronized
  have X : CallFix p m c cX7_isIn 6 s _ wsX7_isIn RX7 := ⟨hx, hb, hml, hown, hts⟩
  have Z := zz_enter hC
  generalize va_A (zg_W ML ad cA σ) sz = A at Z ⊢
  have hl := lv_entry ([.long a0, .long a2, .long a4]) (n := 6) (Nat.le_of_ble_eq_true rfl)
  rw [lg_entry_eq]
  generalize (lg_sl ([.long a0, .long a2, .long a4]) ++ List.replicate (6 - (lg_sl ([.long a0, .long a2, .long a4])).length) Slot.unset).toArray = ls at hl ⊢
  have hl : lv_has ls 6 [(0, .long a0), (2, .long a2), (4, .long a4)] := hl
  unfold f_X7_isIn at hf
  refine lv_lload_n hx hb dX7_isIn_0 rfl (lv_at hl 0 rfl) ?_
  refine lv_lload_n hx hb dX7_isIn_1 rfl (lv_at hl 1 rfl) ?_
  refine W.lcmp hx hb dX7_isIn_2 ?_
  refine lv_if_lt (tgt := 17) hx hb dX7_isIn_3 (by decide) (fun b1 => ?_) (fun b1 => ?_)
  · have hf2 := zYes hf b1
    clear hf
    refine lv_iconst (v := 0) hx hb dX7_isIn_17 (by decide) ?_
    exact zy_zret X hr hlk Z (by decide) (zEnd hf2) dX7_isIn_18
  · have hf3 := zNot hf b1
    clear hf
    refine lv_lload_n hx hb dX7_isIn_6 rfl (lv_at hl 0 rfl) ?_
    refine lv_lload hx hb dX7_isIn_7 (lv_at hl 2 rfl) ?_
    refine W.lcmp hx hb dX7_isIn_9 ?_
    refine lv_if_gt (tgt := 17) hx hb dX7_isIn_10 (by decide) (fun b4 => ?_) (fun b4 => ?_)
    · have hf5 := zYes hf3 b4
      clear hf3
      refine lv_iconst (v := 0) hx hb dX7_isIn_17 (by decide) ?_
      exact zy_zret X hr hlk Z (by decide) (zEnd hf5) dX7_isIn_18
    · have hf6 := zNot hf3 b4
      clear hf3
      refine lv_iconst (v := 1) hx hb dX7_isIn_13 (by decide) ?_
      refine lv_goto (tgt := 18) hx hb dX7_isIn_14 (by decide) ?_
      exact zy_zret X hr hlk Z (by decide) (zEnd hf6) dX7_isIn_18
def f_X7_isStall (a1 : Int32) (σ : zg_S) : Option (Int32 × zg_S) := zbd (f_X7_isIn (Int32.toInt64 a1) (Int32.toInt64 0) (Int32.toInt64 ((σ 1 0) - 1)) σ) (fun (r1 : Int32) (σ2 : zg_S) => (if r1 = 0 ∨ r1 = 1 then some (r1, σ2) else none))
set_option maxHeartbeats 4000000 in
set_option maxRecDepth 100000 in
theorem c_X7_isStall (l : Launch) (D : va_G) (V : zz_V) (ad : Nat → Nat) (cA : Nat → ClassId) (a1 : Int32)  (σ : zg_S) (r0 : Int32) (σf : zg_S) (hf : f_X7_isStall a1 σ = some (r0, σf)) : zM_I l yX7_isStall wsX7_isStall 1 25 D V ML ad cA [.ref (ad 0), .int a1] σ r0 σf := by
  intro sz
  refine Met.ofW (cc := cX7_isStall) (maxL := 2) (ret := (some .boolean)) (by decide) rfl ?_
  intro p e s m args below meth c s₁ B hml hv
  obtain ⟨rfl, hC⟩ := hv
  have hx := B.exec
  have hb := B.bytes
  have hr := B.returns
  have hts := atoms_spec (ws := wsX7_isStall) B.pre
  have hown : s.vm.findClass RX7 = some m.cls := findClass_of_methodNamed B.named
  have hlk := B.notSynchronized
  have X : CallFix p m c cX7_isStall 2 s _ wsX7_isStall RX7 := ⟨hx, hb, hml, hown, hts⟩
  have Z := zz_enter hC
  generalize va_A (zg_W ML ad cA σ) sz = A at Z ⊢
  have hl := lv_entry ([.ref (ad 0), .int a1]) (n := 2) (Nat.le_of_ble_eq_true rfl)
  rw [lg_entry_eq]
  generalize (lg_sl ([.ref (ad 0), .int a1]) ++ List.replicate (2 - (lg_sl ([.ref (ad 0), .int a1])).length) Slot.unset).toArray = ls at hl ⊢
  have hl : lv_has ls 2 [(0, .ref (ad 0)), (1, .int a1)] := hl
  unfold f_X7_isStall at hf
  refine lv_iload_n hx hb dX7_isStall_0 rfl (lv_at hl 1 rfl) ?_
  refine lv_i2l (v := Int32.toInt64 a1) hx hb dX7_isStall_1 rfl ?_
  refine lv_lconst (v := 0) hx hb dX7_isStall_2 (by decide) ?_
  refine zz_vl (v := Int32.toInt64 0) (by decide) ?_
  refine lv_aload_n hx hb dX7_isStall_3 rfl (lv_at hl 0 rfl) ?_
  refine zy_get (v := .ref (ad 1)) X Z mL_ok mk_0 rfl rfl (fun w h => List.mem_cons_of_mem _ (List.mem_append_right _ h)) 0 rfl (zz_m 1 rfl) rfl dX7_isStall_4 ?_
  refine lv_iconst (v := 0) hx hb dX7_isStall_7 (by decide) ?_
  refine zy_ild X Z mL_ok mk_1 ml_1 (zz_in 0 3047 rfl) dX7_isStall_8 ?_
  refine zz_v (v := σ 1 0) rfl ?_
  refine lv_iconst (v := 1) hx hb dX7_isStall_9 (by decide) ?_
  refine lv_isub hx hb dX7_isStall_10 ?_
  refine lv_i2l (v := Int32.toInt64 ((σ 1 0) - 1)) hx hb dX7_isStall_11 rfl ?_
  obtain ⟨r1, σ2, hc3, hf4⟩ := zBd hf
  clear hf
  refine zy_ci (r0 := r1) (WS1 := zg_W ML ad cA σ2) (TYS1 := zg_T ML cA) Z (va_runS (As := [.long (Int32.toInt64 a1), .long (Int32.toInt64 0), .long (Int32.toInt64 ((σ 1 0) - 1))]) (rest := []) X (c_X7_isIn l D V ad cA (Int32.toInt64 a1) (Int32.toInt64 0) (Int32.toInt64 ((σ 1 0) - 1)) σ r1 σ2 hc3 s.heap.size) (va_cwS 3 hts gX7_isStall_X7_isIn rfl rfl rfl zh_X7_isIn ⟨Nat.le_of_ble_eq_true rfl, Nat.le_of_ble_eq_true rfl⟩) (zz_pS Z) rfl rfl hl.1 rfl (lv_room (Nat.le_of_ble_eq_true rfl)) dX7_isStall_12 ⟨Nat.le_of_ble_eq_true rfl, Nat.le_of_ble_eq_true rfl⟩) (fun H5 lo6 Z7 => ?_)
  clear Z hc3
  obtain ⟨z9, hf8⟩ := zC hf4
  exact zy_zret X hr hlk Z7 z9 (zEnd hf8) dX7_isStall_15
def f_X7_of (a1 : Int32) (a2 : Int32) (σ : zg_S) : Option (Int32 × zg_S) := (if zin ((11 + (4 * a1)) + a2) 3047 = true then some (σ 1 (Int32.toNatClampNeg ((11 + (4 * a1)) + a2)), σ) else none)
set_option maxHeartbeats 4000000 in
set_option maxRecDepth 100000 in
theorem c_X7_of (l : Launch) (D : va_G) (V : zz_V) (ad : Nat → Nat) (cA : Nat → ClassId) (a1 : Int32) (a2 : Int32)  (σ : zg_S) (r0 : Int32) (σf : zg_S) (hf : f_X7_of a1 a2 σ = some (r0, σf)) : zM_I l yX7_of wsX7_of 0 0 D V ML ad cA [.ref (ad 0), .int a1, .int a2] σ r0 σf := by
  intro sz
  refine Met.ofW (cc := cX7_of) (maxL := 3) (ret := (some .int)) (by decide) rfl ?_
  intro p e s m args below meth c s₁ B hml hv
  obtain ⟨rfl, hC⟩ := hv
  have hx := B.exec
  have hb := B.bytes
  have hr := B.returns
  have hts := atoms_spec (ws := wsX7_of) B.pre
  have hown : s.vm.findClass RX7 = some m.cls := findClass_of_methodNamed B.named
  have hlk := B.notSynchronized
  have X : CallFix p m c cX7_of 3 s _ wsX7_of RX7 := ⟨hx, hb, hml, hown, hts⟩
  have Z := zz_enter hC
  generalize va_A (zg_W ML ad cA σ) sz = A at Z ⊢
  have hl := lv_entry ([.ref (ad 0), .int a1, .int a2]) (n := 3) (Nat.le_of_ble_eq_true rfl)
  rw [lg_entry_eq]
  generalize (lg_sl ([.ref (ad 0), .int a1, .int a2]) ++ List.replicate (3 - (lg_sl ([.ref (ad 0), .int a1, .int a2])).length) Slot.unset).toArray = ls at hl ⊢
  have hl : lv_has ls 3 [(0, .ref (ad 0)), (1, .int a1), (2, .int a2)] := hl
  unfold f_X7_of at hf
  refine lv_aload_n hx hb dX7_of_0 rfl (lv_at hl 0 rfl) ?_
  refine zy_get (v := .ref (ad 1)) X Z mL_ok mk_0 rfl rfl (fun w h => List.mem_cons_of_mem _ (List.mem_append_right _ h)) 0 rfl (zz_m 1 rfl) rfl dX7_of_1 ?_
  refine lv_bipush (v := 11) hx hb dX7_of_4 (by decide) ?_
  refine lv_iconst (v := 4) hx hb dX7_of_6 (by decide) ?_
  refine lv_iload_n hx hb dX7_of_7 rfl (lv_at hl 1 rfl) ?_
  refine lv_imul hx hb dX7_of_8 ?_
  refine lv_iadd hx hb dX7_of_9 ?_
  refine lv_iload_n hx hb dX7_of_10 rfl (lv_at hl 2 rfl) ?_
  refine lv_iadd hx hb dX7_of_11 ?_
  obtain ⟨⟨i1, j2⟩, hf3⟩ := zG hf
  clear hf
  refine zy_ild X Z mL_ok mk_1 ml_1 i1 dX7_of_12 ?_
  exact zy_iret X hr hlk Z (zEnd hf3) dX7_of_13
def B_X7_isOf_19 (a0 : Int32) (a1 : Int32) (σ : zg_S) : Option (Int32 × zg_S) := (if a1 = 2 then (if a0 = 4 then some (1, σ) else some (0, σ)) else some (0, σ))
def f_X7_isOf (a0 : Int32) (a1 : Int32) (σ : zg_S) : Option (Int32 × zg_S) := (if a0 = a1 then some (1, σ) else (if a1 = 0 then some (1, σ) else (if a1 = 1 then (if a0 = 3 then some (1, σ) else B_X7_isOf_19 a0 a1 σ) else B_X7_isOf_19 a0 a1 σ)))
set_option maxHeartbeats 4000000 in
set_option maxRecDepth 100000 in
theorem c_X7_isOf (l : Launch) (D : va_G) (V : zz_V) (ad : Nat → Nat) (cA : Nat → ClassId) (a0 : Int32) (a1 : Int32)  (σ : zg_S) (r0 : Int32) (σf : zg_S) (hf : f_X7_isOf a0 a1 σ = some (r0, σf)) : zM_I l yX7_isOf wsX7_isOf 0 0 D V ML ad cA [.int a0, .int a1] σ r0 σf := by
  intro sz
  refine Met.ofW (cc := cX7_isOf) (maxL := 2) (ret := (some .boolean)) (by decide) rfl ?_
  intro p e s m args below meth c s₁ B hml hv
  obtain ⟨rfl, hC⟩ := hv
  have hx := B.exec
  have hb := B.bytes
  have hr := B.returns
  have hts := atoms_spec (ws := wsX7_isOf) B.pre
  have hown : s.vm.findClass RX7 = some m.cls := findClass_of_methodNamed B.named
  have hlk := B.notSynchronized
  have X : CallFix p m c cX7_isOf 2 s _ wsX7_isOf RX7 := ⟨hx, hb, hml, hown, hts⟩
  have Z := zz_enter hC
  generalize va_A (zg_W ML ad cA σ) sz = A at Z ⊢
  have hl := lv_entry ([.int a0, .int a1]) (n := 2) (Nat.le_of_ble_eq_true rfl)
  rw [lg_entry_eq]
  generalize (lg_sl ([.int a0, .int a1]) ++ List.replicate (2 - (lg_sl ([.int a0, .int a1])).length) Slot.unset).toArray = ls at hl ⊢
  have hl : lv_has ls 2 [(0, .int a0), (1, .int a1)] := hl
  unfold f_X7_isOf at hf
  have b19_ : ∀ (σ : zg_S), B_X7_isOf_19 a0 a1  σ = some (r0, σf) → ∀ (H : Heap) (locs : List Loc) (ls : Array Slot), zz_S D V A s (zg_W ML ad cA σ) (zg_T ML cA) H locs → lv_has ls 2 [(0, .int a0), (1, .int a1)] → W p l e (headSpec wsX7_isOf { frames := 0, cells := 0, slots := 0, locals := 0 }).room s m (List.toArray [.int a0, .int a1]) below meth c H locs 0 0 (MQ below (va_Qi (fun r (_ : Unit) => r = r0) (fun _ t => zz_B D A (zg_W ML ad cA σf) (zg_T ML cA) t) A) (List.toArray [.int a0, .int a1]) s 0 0 A) (F0 m 19 ls []) := by
    intro σ hf19_ H19_ locs19_ ls19_ Z19_ hl19_
    unfold B_X7_isOf_19 at hf19_
    refine lv_iload_n hx hb dX7_isOf_19 rfl (lv_at hl19_ 1 rfl) ?_
    refine lv_iconst (v := 2) hx hb dX7_isOf_20 (by decide) ?_
    refine lv_icmp_ne (tgt := 33) hx hb dX7_isOf_21 (by decide) (fun b1 => ?_) (fun b1 => ?_)
    · have hf2 := zNot hf19_ b1
      clear hf19_
      refine lv_iconst (v := 0) hx hb dX7_isOf_33 (by decide) ?_
      exact zy_zret X hr hlk Z19_ (by decide) (zEnd hf2) dX7_isOf_34
    · have hf3 := zYes hf19_ b1
      clear hf19_
      refine lv_iload_n hx hb dX7_isOf_24 rfl (lv_at hl19_ 0 rfl) ?_
      refine lv_iconst (v := 4) hx hb dX7_isOf_25 (by decide) ?_
      refine lv_icmp_ne (tgt := 33) hx hb dX7_isOf_26 (by decide) (fun b4 => ?_) (fun b4 => ?_)
      · have hf5 := zNot hf3 b4
        clear hf3
        refine lv_iconst (v := 0) hx hb dX7_isOf_33 (by decide) ?_
        exact zy_zret X hr hlk Z19_ (by decide) (zEnd hf5) dX7_isOf_34
      · have hf6 := zYes hf3 b4
        clear hf3
        refine lv_iconst (v := 1) hx hb dX7_isOf_29 (by decide) ?_
        refine lv_goto (tgt := 34) hx hb dX7_isOf_30 (by decide) ?_
        exact zy_zret X hr hlk Z19_ (by decide) (zEnd hf6) dX7_isOf_34
  refine lv_iload_n hx hb dX7_isOf_0 rfl (lv_at hl 0 rfl) ?_
  refine lv_iload_n hx hb dX7_isOf_1 rfl (lv_at hl 1 rfl) ?_
  refine lv_icmp_eq (tgt := 29) hx hb dX7_isOf_2 (by decide) (fun b7 => ?_) (fun b7 => ?_)
  · have hf8 := zYes hf b7
    clear hf
    refine lv_iconst (v := 1) hx hb dX7_isOf_29 (by decide) ?_
    refine lv_goto (tgt := 34) hx hb dX7_isOf_30 (by decide) ?_
    exact zy_zret X hr hlk Z (by decide) (zEnd hf8) dX7_isOf_34
  · have hf9 := zNot hf b7
    clear hf
    refine lv_iload_n hx hb dX7_isOf_5 rfl (lv_at hl 1 rfl) ?_
    refine lv_if_eq (tgt := 29) hx hb dX7_isOf_6 (by decide) (fun b10 => ?_) (fun b10 => ?_)
    · have hf11 := zYes hf9 b10
      clear hf9
      refine lv_iconst (v := 1) hx hb dX7_isOf_29 (by decide) ?_
      refine lv_goto (tgt := 34) hx hb dX7_isOf_30 (by decide) ?_
      exact zy_zret X hr hlk Z (by decide) (zEnd hf11) dX7_isOf_34
    · have hf12 := zNot hf9 b10
      clear hf9
      refine lv_iload_n hx hb dX7_isOf_9 rfl (lv_at hl 1 rfl) ?_
      refine lv_iconst (v := 1) hx hb dX7_isOf_10 (by decide) ?_
      refine lv_icmp_ne (tgt := 19) hx hb dX7_isOf_11 (by decide) (fun b13 => ?_) (fun b13 => ?_)
      · have hf14 := zNot hf12 b13
        clear hf12
        exact b19_ σ hf14 _ _ _ Z (lv_sub hl [0, 1] rfl)
      · have hf15 := zYes hf12 b13
        clear hf12
        refine lv_iload_n hx hb dX7_isOf_14 rfl (lv_at hl 0 rfl) ?_
        refine lv_iconst (v := 3) hx hb dX7_isOf_15 (by decide) ?_
        refine lv_icmp_eq (tgt := 29) hx hb dX7_isOf_16 (by decide) (fun b16 => ?_) (fun b16 => ?_)
        · have hf17 := zYes hf15 b16
          clear hf15
          refine lv_iconst (v := 1) hx hb dX7_isOf_29 (by decide) ?_
          refine lv_goto (tgt := 34) hx hb dX7_isOf_30 (by decide) ?_
          exact zy_zret X hr hlk Z (by decide) (zEnd hf17) dX7_isOf_34
        · have hf18 := zNot hf15 b16
          clear hf15
          exact b19_ σ hf18 _ _ _ Z (lv_sub hl [0, 1] rfl)
def f_X7_as (a1 : Int32) (a2 : Int32) (σ : zg_S) : Option (Int32 × zg_S) := zbd (f_X7_isStall a1 σ) (fun (r1 : Int32) (σ2 : zg_S) => (if r1 = 0 then some ((-1000000001), σ2) else zbd (f_X7_isIn (Int32.toInt64 a2) (Int32.toInt64 0) (Int32.toInt64 5) σ2) (fun (r11 : Int32) (σ12 : zg_S) => (if r11 = 0 then some ((-1000000001), σ12) else zbd (f_X7_of a1 0 σ12) (fun (r20 : Int32) (σ21 : zg_S) => zbd (f_X7_isOf r20 a2 σ21) (fun (r27 : Int32) (σ28 : zg_S) => (if r27 = 0 then some ((-1000000012), σ28) else zbd (f_X7_of a1 3 σ28) (fun (r37 : Int32) (σ38 : zg_S) => some (r37, σ38)))))))))
set_option maxHeartbeats 4000000 in
set_option maxRecDepth 100000 in
theorem c_X7_as (l : Launch) (D : va_G) (V : zz_V) (ad : Nat → Nat) (cA : Nat → ClassId) (a1 : Int32) (a2 : Int32)  (σ : zg_S) (r0 : Int32) (σf : zg_S) (hf : f_X7_as a1 a2 σ = some (r0, σf)) : zM_I l yX7_as wsX7_as 2 46 D V ML ad cA [.ref (ad 0), .int a1, .int a2] σ r0 σf := by
  intro sz
  refine Met.ofW (cc := cX7_as) (maxL := 3) (ret := (some .int)) (by decide) rfl ?_
  intro p e s m args below meth c s₁ B hml hv
  obtain ⟨rfl, hC⟩ := hv
  have hx := B.exec
  have hb := B.bytes
  have hr := B.returns
  have hts := atoms_spec (ws := wsX7_as) B.pre
  have hown : s.vm.findClass RX7 = some m.cls := findClass_of_methodNamed B.named
  have hlk := B.notSynchronized
  have X : CallFix p m c cX7_as 3 s _ wsX7_as RX7 := ⟨hx, hb, hml, hown, hts⟩
  have Z := zz_enter hC
  generalize va_A (zg_W ML ad cA σ) sz = A at Z ⊢
  have hl := lv_entry ([.ref (ad 0), .int a1, .int a2]) (n := 3) (Nat.le_of_ble_eq_true rfl)
  rw [lg_entry_eq]
  generalize (lg_sl ([.ref (ad 0), .int a1, .int a2]) ++ List.replicate (3 - (lg_sl ([.ref (ad 0), .int a1, .int a2])).length) Slot.unset).toArray = ls at hl ⊢
  have hl : lv_has ls 3 [(0, .ref (ad 0)), (1, .int a1), (2, .int a2)] := hl
  unfold f_X7_as at hf
  refine lv_aload_n hx hb dX7_as_0 rfl (lv_at hl 0 rfl) ?_
  refine lv_iload_n hx hb dX7_as_1 rfl (lv_at hl 1 rfl) ?_
  obtain ⟨r1, σ2, hc3, hf4⟩ := zBd hf
  clear hf
  refine zy_ci (r0 := r1) (WS1 := zg_W ML ad cA σ2) (TYS1 := zg_T ML cA) Z (va_runV (As := [.int a1]) (rest := []) X (c_X7_isStall l D V ad cA a1 σ r1 σ2 hc3 s.heap.size) (cwV 1 hts gX7_as_X7_isStall rfl rfl rfl ⟨rfl, zh_X7_isStall⟩ ⟨Nat.le_of_ble_eq_true rfl, Nat.le_of_ble_eq_true rfl⟩) (zy_pV (ci := 7) Z mL_ok mk_0 rfl rfl) rfl rfl hl.1 rfl (lv_room (Nat.le_of_ble_eq_true rfl)) dX7_as_2 ⟨Nat.le_of_ble_eq_true rfl, Nat.le_of_ble_eq_true rfl⟩) (fun H5 lo6 Z7 => ?_)
  clear Z hc3
  refine lv_if_eq (tgt := 20) hx hb dX7_as_5 (by decide) (fun b8 => ?_) (fun b8 => ?_)
  · have hf9 := zYes hf4 b8
    clear hf4
    refine lv_ldc (v := (-1000000001)) hx hb hown (hts _ (zz_m 2 rfl)) dX7_as_20 ?_
    exact zy_iret X hr hlk Z7 (zEnd hf9) dX7_as_22
  · have hf10 := zNot hf4 b8
    clear hf4
    refine lv_iload_n hx hb dX7_as_8 rfl (lv_at hl 2 rfl) ?_
    refine lv_i2l (v := Int32.toInt64 a2) hx hb dX7_as_9 rfl ?_
    refine lv_lconst (v := 0) hx hb dX7_as_10 (by decide) ?_
    refine zz_vl (v := Int32.toInt64 0) (by decide) ?_
    refine lv_ldc2 (v := 5) hx hb hown (hts _ (zz_m 1 rfl)) dX7_as_11 ?_
    refine zz_vl (v := Int32.toInt64 5) (by decide) ?_
    obtain ⟨r11, σ12, hc13, hf14⟩ := zBd hf10
    clear hf10
    refine zy_ci (r0 := r11) (WS1 := zg_W ML ad cA σ12) (TYS1 := zg_T ML cA) Z7 (va_runS (As := [.long (Int32.toInt64 a2), .long (Int32.toInt64 0), .long (Int32.toInt64 5)]) (rest := []) X (c_X7_isIn l D V ad cA (Int32.toInt64 a2) (Int32.toInt64 0) (Int32.toInt64 5) σ2 r11 σ12 hc13 H5.size) (va_cwS 3 hts gX7_as_X7_isIn rfl rfl rfl zh_X7_isIn ⟨Nat.le_of_ble_eq_true rfl, Nat.le_of_ble_eq_true rfl⟩) (zz_pS Z7) rfl rfl hl.1 rfl (lv_room (Nat.le_of_ble_eq_true rfl)) dX7_as_14 ⟨Nat.le_of_ble_eq_true rfl, Nat.le_of_ble_eq_true rfl⟩) (fun H15 lo16 Z17 => ?_)
    clear Z7 hc13
    refine lv_if_ne (tgt := 23) hx hb dX7_as_17 (by decide) (fun b18 => ?_) (fun b18 => ?_)
    · have hf19 := zNot hf14 b18
      clear hf14
      refine lv_aload_n hx hb dX7_as_23 rfl (lv_at hl 0 rfl) ?_
      refine lv_iload_n hx hb dX7_as_24 rfl (lv_at hl 1 rfl) ?_
      refine lv_iconst (v := 0) hx hb dX7_as_25 (by decide) ?_
      obtain ⟨r20, σ21, hc22, hf23⟩ := zBd hf19
      clear hf19
      refine zy_ci (r0 := r20) (WS1 := zg_W ML ad cA σ21) (TYS1 := zg_T ML cA) Z17 (va_runV (As := [.int a1, .int 0]) (rest := []) X (c_X7_of l D V ad cA a1 0 σ12 r20 σ21 hc22 H15.size) (cwV 2 hts gX7_as_X7_of rfl rfl rfl ⟨rfl, zh_X7_of⟩ ⟨Nat.le_of_ble_eq_true rfl, Nat.le_of_ble_eq_true rfl⟩) (zy_pV (ci := 7) Z17 mL_ok mk_0 rfl rfl) rfl rfl hl.1 rfl (lv_room (Nat.le_of_ble_eq_true rfl)) dX7_as_26 ⟨Nat.le_of_ble_eq_true rfl, Nat.le_of_ble_eq_true rfl⟩) (fun H24 lo25 Z26 => ?_)
      clear Z17 hc22
      refine lv_iload_n hx hb dX7_as_29 rfl (lv_at hl 2 rfl) ?_
      obtain ⟨r27, σ28, hc29, hf30⟩ := zBd hf23
      clear hf23
      refine zy_ci (r0 := r27) (WS1 := zg_W ML ad cA σ28) (TYS1 := zg_T ML cA) Z26 (va_runS (As := [.int r20, .int a2]) (rest := []) X (c_X7_isOf l D V ad cA r20 a2 σ21 r27 σ28 hc29 H24.size) (va_cwS 2 hts gX7_as_X7_isOf rfl rfl rfl zh_X7_isOf ⟨Nat.le_of_ble_eq_true rfl, Nat.le_of_ble_eq_true rfl⟩) (zz_pS Z26) rfl rfl hl.1 rfl (lv_room (Nat.le_of_ble_eq_true rfl)) dX7_as_30 ⟨Nat.le_of_ble_eq_true rfl, Nat.le_of_ble_eq_true rfl⟩) (fun H31 lo32 Z33 => ?_)
      clear Z26 hc29
      refine lv_if_eq (tgt := 45) hx hb dX7_as_33 (by decide) (fun b34 => ?_) (fun b34 => ?_)
      · have hf35 := zYes hf30 b34
        clear hf30
        refine lv_ldc (v := (-1000000012)) hx hb hown (hts _ (zz_m 3 rfl)) dX7_as_45 ?_
        exact zy_iret X hr hlk Z33 (zEnd hf35) dX7_as_47
      · have hf36 := zNot hf30 b34
        clear hf30
        refine lv_aload_n hx hb dX7_as_36 rfl (lv_at hl 0 rfl) ?_
        refine lv_iload_n hx hb dX7_as_37 rfl (lv_at hl 1 rfl) ?_
        refine lv_iconst (v := 3) hx hb dX7_as_38 (by decide) ?_
        obtain ⟨r37, σ38, hc39, hf40⟩ := zBd hf36
        clear hf36
        refine zy_ci (r0 := r37) (WS1 := zg_W ML ad cA σ38) (TYS1 := zg_T ML cA) Z33 (va_runV (As := [.int a1, .int 3]) (rest := []) X (c_X7_of l D V ad cA a1 3 σ28 r37 σ38 hc39 H31.size) (cwV 2 hts gX7_as_X7_of rfl rfl rfl ⟨rfl, zh_X7_of⟩ ⟨Nat.le_of_ble_eq_true rfl, Nat.le_of_ble_eq_true rfl⟩) (zy_pV (ci := 7) Z33 mL_ok mk_0 rfl rfl) rfl rfl hl.1 rfl (lv_room (Nat.le_of_ble_eq_true rfl)) dX7_as_39 ⟨Nat.le_of_ble_eq_true rfl, Nat.le_of_ble_eq_true rfl⟩) (fun H41 lo42 Z43 => ?_)
        clear Z33 hc39
        refine lv_goto (tgt := 47) hx hb dX7_as_42 (by decide) ?_
        exact zy_iret X hr hlk Z43 (zEnd hf40) dX7_as_47
    · have hf44 := zYes hf14 b18
      clear hf14
      refine lv_ldc (v := (-1000000001)) hx hb hown (hts _ (zz_m 2 rfl)) dX7_as_20 ?_
      exact zy_iret X hr hlk Z17 (zEnd hf44) dX7_as_22
def f_X7_isSlot (a0 : Int32) (σ : zg_S) : Option (Int32 × zg_S) := zbd (f_X7_isIn (Int32.toInt64 a0) (Int32.toInt64 0) (Int32.toInt64 4) σ) (fun (r1 : Int32) (σ2 : zg_S) => (if r1 = 0 ∨ r1 = 1 then some (r1, σ2) else none))
set_option maxHeartbeats 4000000 in
set_option maxRecDepth 100000 in
theorem c_X7_isSlot (l : Launch) (D : va_G) (V : zz_V) (ad : Nat → Nat) (cA : Nat → ClassId) (a0 : Int32)  (σ : zg_S) (r0 : Int32) (σf : zg_S) (hf : f_X7_isSlot a0 σ = some (r0, σf)) : zM_I l yX7_isSlot wsX7_isSlot 1 25 D V ML ad cA [.int a0] σ r0 σf := by
  intro sz
  refine Met.ofW (cc := cX7_isSlot) (maxL := 1) (ret := (some .boolean)) (by decide) rfl ?_
  intro p e s m args below meth c s₁ B hml hv
  obtain ⟨rfl, hC⟩ := hv
  have hx := B.exec
  have hb := B.bytes
  have hr := B.returns
  have hts := atoms_spec (ws := wsX7_isSlot) B.pre
  have hown : s.vm.findClass RX7 = some m.cls := findClass_of_methodNamed B.named
  have hlk := B.notSynchronized
  have X : CallFix p m c cX7_isSlot 1 s _ wsX7_isSlot RX7 := ⟨hx, hb, hml, hown, hts⟩
  have Z := zz_enter hC
  generalize va_A (zg_W ML ad cA σ) sz = A at Z ⊢
  have hl := lv_entry ([.int a0]) (n := 1) (Nat.le_of_ble_eq_true rfl)
  rw [lg_entry_eq]
  generalize (lg_sl ([.int a0]) ++ List.replicate (1 - (lg_sl ([.int a0])).length) Slot.unset).toArray = ls at hl ⊢
  have hl : lv_has ls 1 [(0, .int a0)] := hl
  unfold f_X7_isSlot at hf
  refine lv_iload_n hx hb dX7_isSlot_0 rfl (lv_at hl 0 rfl) ?_
  refine lv_i2l (v := Int32.toInt64 a0) hx hb dX7_isSlot_1 rfl ?_
  refine lv_lconst (v := 0) hx hb dX7_isSlot_2 (by decide) ?_
  refine zz_vl (v := Int32.toInt64 0) (by decide) ?_
  refine lv_ldc2 (v := 4) hx hb hown (hts _ (zz_m 1 rfl)) dX7_isSlot_3 ?_
  refine zz_vl (v := Int32.toInt64 4) (by decide) ?_
  obtain ⟨r1, σ2, hc3, hf4⟩ := zBd hf
  clear hf
  refine zy_ci (r0 := r1) (WS1 := zg_W ML ad cA σ2) (TYS1 := zg_T ML cA) Z (va_runS (As := [.long (Int32.toInt64 a0), .long (Int32.toInt64 0), .long (Int32.toInt64 4)]) (rest := []) X (c_X7_isIn l D V ad cA (Int32.toInt64 a0) (Int32.toInt64 0) (Int32.toInt64 4) σ r1 σ2 hc3 s.heap.size) (va_cwS 3 hts gX7_isSlot_X7_isIn rfl rfl rfl zh_X7_isIn ⟨Nat.le_of_ble_eq_true rfl, Nat.le_of_ble_eq_true rfl⟩) (zz_pS Z) rfl rfl hl.1 rfl (lv_room (Nat.le_of_ble_eq_true rfl)) dX7_isSlot_6 ⟨Nat.le_of_ble_eq_true rfl, Nat.le_of_ble_eq_true rfl⟩) (fun H5 lo6 Z7 => ?_)
  clear Z hc3
  obtain ⟨z9, hf8⟩ := zC hf4
  exact zy_zret X hr hlk Z7 z9 (zEnd hf8) dX7_isSlot_9
def f_X7_ask (a1 : Int32) (a2 : Int32) (σ : zg_S) : Option (Int32 × zg_S) := zbd (f_X7_isSlot a1 σ) (fun (r1 : Int32) (σ2 : zg_S) => (if r1 = 0 then some ((-1000000001), σ2) else zbd (f_X7_isIn (Int32.toInt64 a2) (Int32.toInt64 0) (Int32.toInt64 5) σ2) (fun (r11 : Int32) (σ12 : zg_S) => (if r11 = 0 then some ((-1000000001), σ12) else (if zin a1 5 = true then (if (σ12 7 (Int32.toNatClampNeg a1)) = 0 then some ((-1000000011), σ12) else (if (σ12 7 (Int32.toNatClampNeg a1)) = 1 then zbd (f_X7_isOf (σ12 8 (Int32.toNatClampNeg a1)) a2 σ12) (fun (r28 : Int32) (σ29 : zg_S) => (if r28 = 0 then some ((-1000000012), σ29) else some (σ29 9 (Int32.toNatClampNeg a1), σ29))) else some ((-1000000012), σ12))) else none)))))
set_option maxHeartbeats 4000000 in
set_option maxRecDepth 100000 in
theorem c_X7_ask (l : Launch) (D : va_G) (V : zz_V) (ad : Nat → Nat) (cA : Nat → ClassId) (a1 : Int32) (a2 : Int32)  (σ : zg_S) (r0 : Int32) (σf : zg_S) (hf : f_X7_ask a1 a2 σ = some (r0, σf)) : zM_I l yX7_ask wsX7_ask 2 45 D V ML ad cA [.ref (ad 0), .int a1, .int a2] σ r0 σf := by
  intro sz
  refine Met.ofW (cc := cX7_ask) (maxL := 3) (ret := (some .int)) (by decide) rfl ?_
  intro p e s m args below meth c s₁ B hml hv
  obtain ⟨rfl, hC⟩ := hv
  have hx := B.exec
  have hb := B.bytes
  have hr := B.returns
  have hts := atoms_spec (ws := wsX7_ask) B.pre
  have hown : s.vm.findClass RX7 = some m.cls := findClass_of_methodNamed B.named
  have hlk := B.notSynchronized
  have X : CallFix p m c cX7_ask 3 s _ wsX7_ask RX7 := ⟨hx, hb, hml, hown, hts⟩
  have Z := zz_enter hC
  generalize va_A (zg_W ML ad cA σ) sz = A at Z ⊢
  have hl := lv_entry ([.ref (ad 0), .int a1, .int a2]) (n := 3) (Nat.le_of_ble_eq_true rfl)
  rw [lg_entry_eq]
  generalize (lg_sl ([.ref (ad 0), .int a1, .int a2]) ++ List.replicate (3 - (lg_sl ([.ref (ad 0), .int a1, .int a2])).length) Slot.unset).toArray = ls at hl ⊢
  have hl : lv_has ls 3 [(0, .ref (ad 0)), (1, .int a1), (2, .int a2)] := hl
  unfold f_X7_ask at hf
  refine lv_iload_n hx hb dX7_ask_0 rfl (lv_at hl 1 rfl) ?_
  obtain ⟨r1, σ2, hc3, hf4⟩ := zBd hf
  clear hf
  refine zy_ci (r0 := r1) (WS1 := zg_W ML ad cA σ2) (TYS1 := zg_T ML cA) Z (va_runS (As := [.int a1]) (rest := []) X (c_X7_isSlot l D V ad cA a1 σ r1 σ2 hc3 s.heap.size) (va_cwS 1 hts gX7_ask_X7_isSlot rfl rfl rfl zh_X7_isSlot ⟨Nat.le_of_ble_eq_true rfl, Nat.le_of_ble_eq_true rfl⟩) (zz_pS Z) rfl rfl hl.1 rfl (lv_room (Nat.le_of_ble_eq_true rfl)) dX7_ask_1 ⟨Nat.le_of_ble_eq_true rfl, Nat.le_of_ble_eq_true rfl⟩) (fun H5 lo6 Z7 => ?_)
  clear Z hc3
  refine lv_if_eq (tgt := 19) hx hb dX7_ask_4 (by decide) (fun b8 => ?_) (fun b8 => ?_)
  · have hf9 := zYes hf4 b8
    clear hf4
    refine lv_ldc (v := (-1000000001)) hx hb hown (hts _ (zz_m 2 rfl)) dX7_ask_19 ?_
    exact zy_iret X hr hlk Z7 (zEnd hf9) dX7_ask_21
  · have hf10 := zNot hf4 b8
    clear hf4
    refine lv_iload_n hx hb dX7_ask_7 rfl (lv_at hl 2 rfl) ?_
    refine lv_i2l (v := Int32.toInt64 a2) hx hb dX7_ask_8 rfl ?_
    refine lv_lconst (v := 0) hx hb dX7_ask_9 (by decide) ?_
    refine zz_vl (v := Int32.toInt64 0) (by decide) ?_
    refine lv_ldc2 (v := 5) hx hb hown (hts _ (zz_m 1 rfl)) dX7_ask_10 ?_
    refine zz_vl (v := Int32.toInt64 5) (by decide) ?_
    obtain ⟨r11, σ12, hc13, hf14⟩ := zBd hf10
    clear hf10
    refine zy_ci (r0 := r11) (WS1 := zg_W ML ad cA σ12) (TYS1 := zg_T ML cA) Z7 (va_runS (As := [.long (Int32.toInt64 a2), .long (Int32.toInt64 0), .long (Int32.toInt64 5)]) (rest := []) X (c_X7_isIn l D V ad cA (Int32.toInt64 a2) (Int32.toInt64 0) (Int32.toInt64 5) σ2 r11 σ12 hc13 H5.size) (va_cwS 3 hts gX7_ask_X7_isIn rfl rfl rfl zh_X7_isIn ⟨Nat.le_of_ble_eq_true rfl, Nat.le_of_ble_eq_true rfl⟩) (zz_pS Z7) rfl rfl hl.1 rfl (lv_room (Nat.le_of_ble_eq_true rfl)) dX7_ask_13 ⟨Nat.le_of_ble_eq_true rfl, Nat.le_of_ble_eq_true rfl⟩) (fun H15 lo16 Z17 => ?_)
    clear Z7 hc13
    refine lv_if_ne (tgt := 22) hx hb dX7_ask_16 (by decide) (fun b18 => ?_) (fun b18 => ?_)
    · have hf19 := zNot hf14 b18
      clear hf14
      refine lv_aload_n hx hb dX7_ask_22 rfl (lv_at hl 0 rfl) ?_
      refine zy_get (v := .ref (ad 7)) X Z17 mL_ok mk_0 rfl rfl (fun w h => List.mem_cons_of_mem _ (List.mem_append_right _ h)) 7 rfl (zz_m 3 rfl) rfl dX7_ask_23 ?_
      refine lv_iload_n hx hb dX7_ask_26 rfl (lv_at hl 1 rfl) ?_
      obtain ⟨⟨i20, j21⟩, hf22⟩ := zG hf19
      clear hf19
      refine zy_ild X Z17 mL_ok mk_7 ml_7 i20 dX7_ask_27 ?_
      refine lv_if_ne (tgt := 35) hx hb dX7_ask_28 (by decide) (fun b23 => ?_) (fun b23 => ?_)
      · have hf24 := zNot hf22 b23
        clear hf22
        refine lv_aload_n hx hb dX7_ask_35 rfl (lv_at hl 0 rfl) ?_
        refine zy_get (v := .ref (ad 7)) X Z17 mL_ok mk_0 rfl rfl (fun w h => List.mem_cons_of_mem _ (List.mem_append_right _ h)) 7 rfl (zz_m 3 rfl) rfl dX7_ask_36 ?_
        refine lv_iload_n hx hb dX7_ask_39 rfl (lv_at hl 1 rfl) ?_
        refine zy_ild X Z17 mL_ok mk_7 ml_7 i20 dX7_ask_40 ?_
        refine lv_iconst (v := 1) hx hb dX7_ask_41 (by decide) ?_
        refine lv_icmp_ne (tgt := 67) hx hb dX7_ask_42 (by decide) (fun b25 => ?_) (fun b25 => ?_)
        · have hf26 := zNot hf24 b25
          clear hf24
          refine lv_ldc (v := (-1000000012)) hx hb hown (hts _ (zz_m 7 rfl)) dX7_ask_67 ?_
          exact zy_iret X hr hlk Z17 (zEnd hf26) dX7_ask_69
        · have hf27 := zYes hf24 b25
          clear hf24
          refine lv_aload_n hx hb dX7_ask_45 rfl (lv_at hl 0 rfl) ?_
          refine zy_get (v := .ref (ad 8)) X Z17 mL_ok mk_0 rfl rfl (fun w h => List.mem_cons_of_mem _ (List.mem_append_right _ h)) 8 rfl (zz_m 5 rfl) rfl dX7_ask_46 ?_
          refine lv_iload_n hx hb dX7_ask_49 rfl (lv_at hl 1 rfl) ?_
          refine zy_ild X Z17 mL_ok mk_8 ml_8 i20 dX7_ask_50 ?_
          refine lv_iload_n hx hb dX7_ask_51 rfl (lv_at hl 2 rfl) ?_
          obtain ⟨r28, σ29, hc30, hf31⟩ := zBd hf27
          clear hf27
          refine zy_ci (r0 := r28) (WS1 := zg_W ML ad cA σ29) (TYS1 := zg_T ML cA) Z17 (va_runS (As := [.int (σ12 8 (Int32.toNatClampNeg a1)), .int a2]) (rest := []) X (c_X7_isOf l D V ad cA (σ12 8 (Int32.toNatClampNeg a1)) a2 σ12 r28 σ29 hc30 H15.size) (va_cwS 2 hts gX7_ask_X7_isOf rfl rfl rfl zh_X7_isOf ⟨Nat.le_of_ble_eq_true rfl, Nat.le_of_ble_eq_true rfl⟩) (zz_pS Z17) rfl rfl hl.1 rfl (lv_room (Nat.le_of_ble_eq_true rfl)) dX7_ask_52 ⟨Nat.le_of_ble_eq_true rfl, Nat.le_of_ble_eq_true rfl⟩) (fun H32 lo33 Z34 => ?_)
          clear Z17 hc30
          refine lv_if_eq (tgt := 67) hx hb dX7_ask_55 (by decide) (fun b35 => ?_) (fun b35 => ?_)
          · have hf36 := zYes hf31 b35
            clear hf31
            refine lv_ldc (v := (-1000000012)) hx hb hown (hts _ (zz_m 7 rfl)) dX7_ask_67 ?_
            exact zy_iret X hr hlk Z34 (zEnd hf36) dX7_ask_69
          · have hf37 := zNot hf31 b35
            clear hf31
            refine lv_aload_n hx hb dX7_ask_58 rfl (lv_at hl 0 rfl) ?_
            refine zy_get (v := .ref (ad 9)) X Z34 mL_ok mk_0 rfl rfl (fun w h => List.mem_cons_of_mem _ (List.mem_append_right _ h)) 9 rfl (zz_m 6 rfl) rfl dX7_ask_59 ?_
            refine lv_iload_n hx hb dX7_ask_62 rfl (lv_at hl 1 rfl) ?_
            refine zy_ild X Z34 mL_ok mk_9 ml_9 i20 dX7_ask_63 ?_
            refine lv_goto (tgt := 69) hx hb dX7_ask_64 (by decide) ?_
            exact zy_iret X hr hlk Z34 (zEnd hf37) dX7_ask_69
      · have hf38 := zYes hf22 b23
        clear hf22
        refine lv_ldcw (v := (-1000000011)) hx hb hown (hts _ (zz_m 4 rfl)) dX7_ask_31 ?_
        exact zy_iret X hr hlk Z17 (zEnd hf38) dX7_ask_34
    · have hf39 := zYes hf14 b18
      clear hf14
      refine lv_ldc (v := (-1000000001)) hx hb hown (hts _ (zz_m 2 rfl)) dX7_ask_19 ?_
      exact zy_iret X hr hlk Z17 (zEnd hf39) dX7_ask_21
def B_X7_setAside_2 (q1 : Nat) (q2 : Nat) (rec2_ : Int32 → zg_S → Option (Int32 × zg_S)) (x3 : Int32) (σ : zg_S) : Option (Int32 × zg_S) := (if 2847 ≤ x3 then some (0, σ) else (if zin x3 ((ML).2.2 q1) = true then zlet (σ q1 (Int32.toNatClampNeg x3)) (fun (y7 : Int32) => (if zin x3 ((ML).2.2 q2) = true then zlet (zg_up σ q2 (Int32.toNatClampNeg x3) y7) (fun (σ13 : zg_S) => rec2_ (x3 + 1) σ13) else none)) else none))
def L_X7_setAside_2 (q1 : Nat) (q2 : Nat) : Nat → Int32 → zg_S → Option (Int32 × zg_S) := zfix (fun _ _ => none) (B_X7_setAside_2 q1 q2)
def f_X7_setAside (q1 : Nat) (q2 : Nat) (σ : zg_S) : Option (Int32 × zg_S) := L_X7_setAside_2 q1 q2 zfu 0 σ
set_option maxHeartbeats 4000000 in
set_option maxRecDepth 100000 in
theorem c_X7_setAside (l : Launch) (D : va_G) (V : zz_V) (ad : Nat → Nat) (cA : Nat → ClassId) (q1 : Nat) (q2 : Nat) (hq1 : ML.2.1 q1 = 8) (hq2 : ML.2.1 q2 = 8) (σ : zg_S) (r0 : Int32) (σf : zg_S) (hf : f_X7_setAside q1 q2 σ = some (r0, σf)) : zM_V l yX7_setAside wsX7_setAside 0 0 D V ML ad cA [.ref (ad 0), .ref (ad q1), .ref (ad q2)] σ r0 σf := by
  intro sz
  refine Met.ofW (cc := cX7_setAside) (maxL := 4) (ret := none) (by decide) rfl ?_
  intro p e s m args below meth c s₁ B hml hv
  obtain ⟨rfl, hC⟩ := hv
  have hx := B.exec
  have hb := B.bytes
  have hr := B.returns
  have hts := atoms_spec (ws := wsX7_setAside) B.pre
  have hown : s.vm.findClass RX7 = some m.cls := findClass_of_methodNamed B.named
  have hlk := B.notSynchronized
  have X : CallFix p m c cX7_setAside 4 s _ wsX7_setAside RX7 := ⟨hx, hb, hml, hown, hts⟩
  have Z := zz_enter hC
  generalize va_A (zg_W ML ad cA σ) sz = A at Z ⊢
  have hl := lv_entry ([.ref (ad 0), .ref (ad q1), .ref (ad q2)]) (n := 4) (Nat.le_of_ble_eq_true rfl)
  rw [lg_entry_eq]
  generalize (lg_sl ([.ref (ad 0), .ref (ad q1), .ref (ad q2)]) ++ List.replicate (4 - (lg_sl ([.ref (ad 0), .ref (ad q1), .ref (ad q2)])).length) Slot.unset).toArray = ls at hl ⊢
  have hl : lv_has ls 4 [(0, .ref (ad 0)), (1, .ref (ad q1)), (2, .ref (ad q2))] := hl
  unfold f_X7_setAside at hf
  have b2_ : ∀ (k2_ : Nat) (x3 : Int32) (σ : zg_S), L_X7_setAside_2 q1 q2 k2_ x3 σ = some (r0, σf) → ∀ (H : Heap) (locs : List Loc) (ls : Array Slot), zz_S D V A s (zg_W ML ad cA σ) (zg_T ML cA) H locs → lv_has ls 4 [(1, .ref (ad q1)), (2, .ref (ad q2)), (3, .int x3)] → W p l e (headSpec wsX7_setAside { frames := 0, cells := 0, slots := 0, locals := 0 }).room s m (List.toArray [.ref (ad 0), .ref (ad q1), .ref (ad q2)]) below meth c H locs 0 0 (MQ below (va_Qv (fun (_ : Unit) => True) (fun _ t => zz_B D A (zg_W ML ad cA σf) (zg_T ML cA) t) A) (List.toArray [.ref (ad 0), .ref (ad q1), .ref (ad q2)]) s 0 0 A) (F0 m 2 ls []) := by
    intro k2_
    induction k2_ with
    | zero =>
        intro x3 σ hf2_ H2_ locs2_ ls2_ Z2_ hl2_
        exact zNone hf2_
    | succ k2_ ih2_ =>
        intro x3 σ hf2_ H2_ locs2_ ls2_ Z2_ hl2_
        replace hf2_ : B_X7_setAside_2 q1 q2 (L_X7_setAside_2 q1 q2 k2_) x3 σ = some (r0, σf) := hf2_
        unfold B_X7_setAside_2 at hf2_
        refine lv_iload_n hx hb dX7_setAside_2 rfl (lv_at hl2_ 2 rfl) ?_
        refine lv_sipush (v := 2847) hx hb dX7_setAside_3 (by decide) ?_
        refine lv_icmp_ge (tgt := 21) hx hb dX7_setAside_6 (by decide) (fun b1 => ?_) (fun b1 => ?_)
        · have hf2 := zYes hf2_ b1
          clear hf2_
          exact zy_vret X hr hlk Z2_ (zEnd hf2) dX7_setAside_21
        · have hf3 := zNot hf2_ b1
          clear hf2_
          refine lv_aload_n hx hb dX7_setAside_9 rfl (lv_at hl2_ 1 rfl) ?_
          refine lv_iload_n hx hb dX7_setAside_10 rfl (lv_at hl2_ 2 rfl) ?_
          refine lv_aload_n hx hb dX7_setAside_11 rfl (lv_at hl2_ 0 rfl) ?_
          refine lv_iload_n hx hb dX7_setAside_12 rfl (lv_at hl2_ 2 rfl) ?_
          obtain ⟨⟨i4, j5⟩, hf6⟩ := zG hf3
          clear hf3
          refine zy_ild X Z2_ mL_ok hq1 rfl i4 dX7_setAside_13 ?_
          obtain ⟨y7, ey8, hf9⟩ := zLet hf6
          clear hf6
          refine zz_v (v := y7) ey8.symm ?_
          clear ey8
          obtain ⟨⟨i10, j11⟩, hf12⟩ := zG hf9
          clear hf9
          obtain ⟨σ13, es14, hf15⟩ := zLet hf12
          clear hf12
          refine zy_ist (σ' := σ13) X Z2_ mL_ok hq2 rfl i10 es14 dX7_setAside_14 (fun H16 lo17 Z18 => ?_)
          clear Z2_ es14
          refine lv_iinc (v := (x3 + 1)) (lv' := [(3, .int (x3 + 1)), (1, .ref (ad q1)), (2, .ref (ad q2))]) hx hb dX7_setAside_15 hl2_ (k := 2) rfl rfl (by decide) rfl (fun ls20 hl19 => ?_)
          clear hl2_
          refine lv_goto (tgt := 2) hx hb dX7_setAside_18 (by decide) ?_
          exact ih2_ (x3 + 1) σ13 hf15 _ _ _ Z18 (lv_sub hl19 [1, 2, 0] rfl)
  refine lv_iconst (v := 0) hx hb dX7_setAside_0 (by decide) ?_
  refine lv_istore_n (lv' := [(3, .int 0), (0, .ref (ad 0)), (1, .ref (ad q1)), (2, .ref (ad q2))]) hx hb dX7_setAside_1 rfl hl (by decide) rfl (fun ls22 hl21 => ?_)
  clear hl
  exact b2_ zfu 0 σ hf _ _ _ Z (lv_sub hl21 [2, 3, 0] rfl)
def f_X7_back  (σ : zg_S) : Option (Int32 × zg_S) := (if (σ 0 3) = 0 then some ((-1000000002), σ) else zbd (f_X7_setAside 2 1 σ) (fun (r3 : Int32) (σ4 : zg_S) => some (σ4 1 0, σ4)))
set_option maxHeartbeats 4000000 in
set_option maxRecDepth 100000 in
theorem c_X7_back (l : Launch) (D : va_G) (V : zz_V) (ad : Nat → Nat) (cA : Nat → ClassId)   (σ : zg_S) (r0 : Int32) (σf : zg_S) (hf : f_X7_back  σ = some (r0, σf)) : zM_I l yX7_back wsX7_back 1 23 D V ML ad cA [.ref (ad 0)] σ r0 σf := by
  intro sz
  refine Met.ofW (cc := cX7_back) (maxL := 1) (ret := (some .int)) (by decide) rfl ?_
  intro p e s m args below meth c s₁ B hml hv
  obtain ⟨rfl, hC⟩ := hv
  have hx := B.exec
  have hb := B.bytes
  have hr := B.returns
  have hts := atoms_spec (ws := wsX7_back) B.pre
  have hown : s.vm.findClass RX7 = some m.cls := findClass_of_methodNamed B.named
  have hlk := B.notSynchronized
  have X : CallFix p m c cX7_back 1 s _ wsX7_back RX7 := ⟨hx, hb, hml, hown, hts⟩
  have Z := zz_enter hC
  generalize va_A (zg_W ML ad cA σ) sz = A at Z ⊢
  have hl := lv_entry ([.ref (ad 0)]) (n := 1) (Nat.le_of_ble_eq_true rfl)
  rw [lg_entry_eq]
  generalize (lg_sl ([.ref (ad 0)]) ++ List.replicate (1 - (lg_sl ([.ref (ad 0)])).length) Slot.unset).toArray = ls at hl ⊢
  have hl : lv_has ls 1 [(0, .ref (ad 0))] := hl
  unfold f_X7_back at hf
  refine lv_aload_n hx hb dX7_back_0 rfl (lv_at hl 0 rfl) ?_
  refine zy_get (v := .int (σ 0 3)) X Z mL_ok mk_0 rfl rfl (fun w h => List.mem_cons_of_mem _ (List.mem_append_right _ h)) 3 rfl (zz_m 1 rfl) rfl dX7_back_1 ?_
  refine lv_if_ne (tgt := 11) hx hb dX7_back_4 (by decide) (fun b1 => ?_) (fun b1 => ?_)
  · have hf2 := zNot hf b1
    clear hf
    refine lv_aload_n hx hb dX7_back_11 rfl (lv_at hl 0 rfl) ?_
    refine lv_aload_n hx hb dX7_back_12 rfl (lv_at hl 0 rfl) ?_
    refine zy_get (v := .ref (ad 2)) X Z mL_ok mk_0 rfl rfl (fun w h => List.mem_cons_of_mem _ (List.mem_append_right _ h)) 1 rfl (zz_m 3 rfl) rfl dX7_back_13 ?_
    refine lv_aload_n hx hb dX7_back_16 rfl (lv_at hl 0 rfl) ?_
    refine zy_get (v := .ref (ad 1)) X Z mL_ok mk_0 rfl rfl (fun w h => List.mem_cons_of_mem _ (List.mem_append_right _ h)) 0 rfl (zz_m 4 rfl) rfl dX7_back_17 ?_
    obtain ⟨r3, σ4, hc5, hf6⟩ := zBd hf2
    clear hf2
    refine zy_cv (WS1 := zg_W ML ad cA σ4) (TYS1 := zg_T ML cA) Z (va_runV (As := [.ref (ad 2), .ref (ad 1)]) (rest := []) X (c_X7_setAside l D V ad cA 2 1 mk_2 mk_1 σ r3 σ4 hc5 s.heap.size) (cwV 2 hts gX7_back_X7_setAside rfl rfl rfl ⟨rfl, zh_X7_setAside⟩ ⟨Nat.le_of_ble_eq_true rfl, Nat.le_of_ble_eq_true rfl⟩) (zy_pV (ci := 7) Z mL_ok mk_0 rfl rfl) rfl rfl hl.1 rfl (lv_room (Nat.le_of_ble_eq_true rfl)) dX7_back_20 ⟨Nat.le_of_ble_eq_true rfl, Nat.le_of_ble_eq_true rfl⟩) (fun H7 lo8 Z9 => ?_)
    clear Z hc5
    refine lv_aload_n hx hb dX7_back_23 rfl (lv_at hl 0 rfl) ?_
    refine zy_get (v := .ref (ad 1)) X Z9 mL_ok mk_0 rfl rfl (fun w h => List.mem_cons_of_mem _ (List.mem_append_right _ h)) 0 rfl (zz_m 4 rfl) rfl dX7_back_24 ?_
    refine lv_iconst (v := 0) hx hb dX7_back_27 (by decide) ?_
    refine zy_ild X Z9 mL_ok mk_1 ml_1 (zz_in 0 3047 rfl) dX7_back_28 ?_
    refine zz_v (v := σ4 1 0) rfl ?_
    exact zy_iret X hr hlk Z9 (zEnd hf6) dX7_back_29
  · have hf10 := zYes hf b1
    clear hf
    refine lv_ldcw (v := (-1000000002)) hx hb hown (hts _ (zz_m 2 rfl)) dX7_back_7 ?_
    exact zy_iret X hr hlk Z (zEnd hf10) dX7_back_10
def f_X7_becomes (a1 : Int32) (a2 : Int32) (σ : zg_S) : Option (Int32 × zg_S) := (if zin a1 3047 = true then zlet (zg_up σ 1 (Int32.toNatClampNeg a1) a2) (fun (σ6 : zg_S) => some (σ 1 (Int32.toNatClampNeg a1), σ6)) else none)
set_option maxHeartbeats 4000000 in
set_option maxRecDepth 100000 in
theorem c_X7_becomes (l : Launch) (D : va_G) (V : zz_V) (ad : Nat → Nat) (cA : Nat → ClassId) (a1 : Int32) (a2 : Int32)  (σ : zg_S) (r0 : Int32) (σf : zg_S) (hf : f_X7_becomes a1 a2 σ = some (r0, σf)) : zM_I l yX7_becomes wsX7_becomes 0 0 D V ML ad cA [.ref (ad 0), .int a1, .int a2] σ r0 σf := by
  intro sz
  refine Met.ofW (cc := cX7_becomes) (maxL := 4) (ret := (some .int)) (by decide) rfl ?_
  intro p e s m args below meth c s₁ B hml hv
  obtain ⟨rfl, hC⟩ := hv
  have hx := B.exec
  have hb := B.bytes
  have hr := B.returns
  have hts := atoms_spec (ws := wsX7_becomes) B.pre
  have hown : s.vm.findClass RX7 = some m.cls := findClass_of_methodNamed B.named
  have hlk := B.notSynchronized
  have X : CallFix p m c cX7_becomes 4 s _ wsX7_becomes RX7 := ⟨hx, hb, hml, hown, hts⟩
  have Z := zz_enter hC
  generalize va_A (zg_W ML ad cA σ) sz = A at Z ⊢
  have hl := lv_entry ([.ref (ad 0), .int a1, .int a2]) (n := 4) (Nat.le_of_ble_eq_true rfl)
  rw [lg_entry_eq]
  generalize (lg_sl ([.ref (ad 0), .int a1, .int a2]) ++ List.replicate (4 - (lg_sl ([.ref (ad 0), .int a1, .int a2])).length) Slot.unset).toArray = ls at hl ⊢
  have hl : lv_has ls 4 [(0, .ref (ad 0)), (1, .int a1), (2, .int a2)] := hl
  unfold f_X7_becomes at hf
  refine lv_aload_n hx hb dX7_becomes_0 rfl (lv_at hl 0 rfl) ?_
  refine zy_get (v := .ref (ad 1)) X Z mL_ok mk_0 rfl rfl (fun w h => List.mem_cons_of_mem _ (List.mem_append_right _ h)) 0 rfl (zz_m 1 rfl) rfl dX7_becomes_1 ?_
  refine lv_iload_n hx hb dX7_becomes_4 rfl (lv_at hl 1 rfl) ?_
  obtain ⟨⟨i1, j2⟩, hf3⟩ := zG hf
  clear hf
  refine zy_ild X Z mL_ok mk_1 ml_1 i1 dX7_becomes_5 ?_
  refine lv_istore_n (lv' := [(3, .int (σ 1 (Int32.toNatClampNeg a1))), (0, .ref (ad 0)), (1, .int a1), (2, .int a2)]) hx hb dX7_becomes_6 rfl hl (by decide) rfl (fun ls5 hl4 => ?_)
  clear hl
  refine lv_aload_n hx hb dX7_becomes_7 rfl (lv_at hl4 1 rfl) ?_
  refine zy_get (v := .ref (ad 1)) X Z mL_ok mk_0 rfl rfl (fun w h => List.mem_cons_of_mem _ (List.mem_append_right _ h)) 0 rfl (zz_m 1 rfl) rfl dX7_becomes_8 ?_
  refine lv_iload_n hx hb dX7_becomes_11 rfl (lv_at hl4 2 rfl) ?_
  refine lv_iload_n hx hb dX7_becomes_12 rfl (lv_at hl4 3 rfl) ?_
  obtain ⟨σ6, es7, hf8⟩ := zLet hf3
  clear hf3
  refine zy_ist (σ' := σ6) X Z mL_ok mk_1 ml_1 i1 es7 dX7_becomes_13 (fun H9 lo10 Z11 => ?_)
  clear Z es7
  refine lv_iload_n hx hb dX7_becomes_14 rfl (lv_at hl4 0 rfl) ?_
  exact zy_iret X hr hlk Z11 (zEnd hf8) dX7_becomes_15
def B_X7_laysBy_2 (rec2_ : Int32 → zg_S → Option (Int32 × zg_S)) (x1 : Int32) (σ : zg_S) : Option (Int32 × zg_S) := (if 47 ≤ x1 then some (0, σ) else (if zin x1 3047 = true then (if zin x1 47 = true then zlet (zg_up σ 12 (Int32.toNatClampNeg x1) (σ 1 (Int32.toNatClampNeg x1))) (fun (σ10 : zg_S) => rec2_ (x1 + 1) σ10) else none) else none))
def L_X7_laysBy_2 : Nat → Int32 → zg_S → Option (Int32 × zg_S) := zfix (fun _ _ => none) (B_X7_laysBy_2)
def f_X7_laysBy  (σ : zg_S) : Option (Int32 × zg_S) := L_X7_laysBy_2 zfu 0 σ
set_option maxHeartbeats 4000000 in
set_option maxRecDepth 100000 in
theorem c_X7_laysBy (l : Launch) (D : va_G) (V : zz_V) (ad : Nat → Nat) (cA : Nat → ClassId)   (σ : zg_S) (r0 : Int32) (σf : zg_S) (hf : f_X7_laysBy  σ = some (r0, σf)) : zM_V l yX7_laysBy wsX7_laysBy 0 0 D V ML ad cA [.ref (ad 0)] σ r0 σf := by
  intro sz
  refine Met.ofW (cc := cX7_laysBy) (maxL := 2) (ret := none) (by decide) rfl ?_
  intro p e s m args below meth c s₁ B hml hv
  obtain ⟨rfl, hC⟩ := hv
  have hx := B.exec
  have hb := B.bytes
  have hr := B.returns
  have hts := atoms_spec (ws := wsX7_laysBy) B.pre
  have hown : s.vm.findClass RX7 = some m.cls := findClass_of_methodNamed B.named
  have hlk := B.notSynchronized
  have X : CallFix p m c cX7_laysBy 2 s _ wsX7_laysBy RX7 := ⟨hx, hb, hml, hown, hts⟩
  have Z := zz_enter hC
  generalize va_A (zg_W ML ad cA σ) sz = A at Z ⊢
  have hl := lv_entry ([.ref (ad 0)]) (n := 2) (Nat.le_of_ble_eq_true rfl)
  rw [lg_entry_eq]
  generalize (lg_sl ([.ref (ad 0)]) ++ List.replicate (2 - (lg_sl ([.ref (ad 0)])).length) Slot.unset).toArray = ls at hl ⊢
  have hl : lv_has ls 2 [(0, .ref (ad 0))] := hl
  unfold f_X7_laysBy at hf
  have b2_ : ∀ (k2_ : Nat) (x1 : Int32) (σ : zg_S), L_X7_laysBy_2 k2_ x1 σ = some (r0, σf) → ∀ (H : Heap) (locs : List Loc) (ls : Array Slot), zz_S D V A s (zg_W ML ad cA σ) (zg_T ML cA) H locs → lv_has ls 2 [(0, .ref (ad 0)), (1, .int x1)] → W p l e (headSpec wsX7_laysBy { frames := 0, cells := 0, slots := 0, locals := 0 }).room s m (List.toArray [.ref (ad 0)]) below meth c H locs 0 0 (MQ below (va_Qv (fun (_ : Unit) => True) (fun _ t => zz_B D A (zg_W ML ad cA σf) (zg_T ML cA) t) A) (List.toArray [.ref (ad 0)]) s 0 0 A) (F0 m 2 ls []) := by
    intro k2_
    induction k2_ with
    | zero =>
        intro x1 σ hf2_ H2_ locs2_ ls2_ Z2_ hl2_
        exact zNone hf2_
    | succ k2_ ih2_ =>
        intro x1 σ hf2_ H2_ locs2_ ls2_ Z2_ hl2_
        replace hf2_ : B_X7_laysBy_2 (L_X7_laysBy_2 k2_) x1 σ = some (r0, σf) := hf2_
        unfold B_X7_laysBy_2 at hf2_
        refine lv_iload_n hx hb dX7_laysBy_2 rfl (lv_at hl2_ 1 rfl) ?_
        refine lv_bipush (v := 47) hx hb dX7_laysBy_3 (by decide) ?_
        refine lv_icmp_ge (tgt := 26) hx hb dX7_laysBy_5 (by decide) (fun b1 => ?_) (fun b1 => ?_)
        · have hf2 := zYes hf2_ b1
          clear hf2_
          exact zy_vret X hr hlk Z2_ (zEnd hf2) dX7_laysBy_26
        · have hf3 := zNot hf2_ b1
          clear hf2_
          refine lv_aload_n hx hb dX7_laysBy_8 rfl (lv_at hl2_ 0 rfl) ?_
          refine zy_get (v := .ref (ad 12)) X Z2_ mL_ok mk_0 rfl rfl (fun w h => List.mem_cons_of_mem _ (List.mem_append_right _ h)) 12 rfl (zz_m 1 rfl) rfl dX7_laysBy_9 ?_
          refine lv_iload_n hx hb dX7_laysBy_12 rfl (lv_at hl2_ 1 rfl) ?_
          refine lv_aload_n hx hb dX7_laysBy_13 rfl (lv_at hl2_ 0 rfl) ?_
          refine zy_get (v := .ref (ad 1)) X Z2_ mL_ok mk_0 rfl rfl (fun w h => List.mem_cons_of_mem _ (List.mem_append_right _ h)) 0 rfl (zz_m 2 rfl) rfl dX7_laysBy_14 ?_
          refine lv_iload_n hx hb dX7_laysBy_17 rfl (lv_at hl2_ 1 rfl) ?_
          obtain ⟨⟨i4, j5⟩, hf6⟩ := zG hf3
          clear hf3
          refine zy_ild X Z2_ mL_ok mk_1 ml_1 i4 dX7_laysBy_18 ?_
          obtain ⟨⟨i7, j8⟩, hf9⟩ := zG hf6
          clear hf6
          obtain ⟨σ10, es11, hf12⟩ := zLet hf9
          clear hf9
          refine zy_ist (σ' := σ10) X Z2_ mL_ok mk_12 ml_12 i7 es11 dX7_laysBy_19 (fun H13 lo14 Z15 => ?_)
          clear Z2_ es11
          refine lv_iinc (v := (x1 + 1)) (lv' := [(1, .int (x1 + 1)), (0, .ref (ad 0))]) hx hb dX7_laysBy_20 hl2_ (k := 1) rfl rfl (by decide) rfl (fun ls17 hl16 => ?_)
          clear hl2_
          refine lv_goto (tgt := 2) hx hb dX7_laysBy_23 (by decide) ?_
          exact ih2_ (x1 + 1) σ10 hf12 _ _ _ Z15 (lv_sub hl16 [1, 0] rfl)
  refine lv_iconst (v := 0) hx hb dX7_laysBy_0 (by decide) ?_
  refine lv_istore_n (lv' := [(1, .int 0), (0, .ref (ad 0))]) hx hb dX7_laysBy_1 rfl hl (by decide) rfl (fun ls19 hl18 => ?_)
  clear hl
  exact b2_ zfu 0 σ hf _ _ _ Z (lv_sub hl18 [1, 0] rfl)
def f_X7_within (a0 : Int32) (a1 : Int32) (σ : zg_S) : Option (Int32 × zg_S) := (if 0 ≤ a0 then (if a0 ≤ a1 then some (a0, σ) else some (a1, σ)) else some (0, σ))
set_option maxHeartbeats 4000000 in
set_option maxRecDepth 100000 in
theorem c_X7_within (l : Launch) (D : va_G) (V : zz_V) (ad : Nat → Nat) (cA : Nat → ClassId) (a0 : Int32) (a1 : Int32)  (σ : zg_S) (r0 : Int32) (σf : zg_S) (hf : f_X7_within a0 a1 σ = some (r0, σf)) : zM_I l yX7_within wsX7_within 0 0 D V ML ad cA [.int a0, .int a1] σ r0 σf := by
  intro sz
  refine Met.ofW (cc := cX7_within) (maxL := 2) (ret := (some .int)) (by decide) rfl ?_
  intro p e s m args below meth c s₁ B hml hv
  obtain ⟨rfl, hC⟩ := hv
  have hx := B.exec
  have hb := B.bytes
  have hr := B.returns
  have hts := atoms_spec (ws := wsX7_within) B.pre
  have hown : s.vm.findClass RX7 = some m.cls := findClass_of_methodNamed B.named
  have hlk := B.notSynchronized
  have X : CallFix p m c cX7_within 2 s _ wsX7_within RX7 := ⟨hx, hb, hml, hown, hts⟩
  have Z := zz_enter hC
  generalize va_A (zg_W ML ad cA σ) sz = A at Z ⊢
  have hl := lv_entry ([.int a0, .int a1]) (n := 2) (Nat.le_of_ble_eq_true rfl)
  rw [lg_entry_eq]
  generalize (lg_sl ([.int a0, .int a1]) ++ List.replicate (2 - (lg_sl ([.int a0, .int a1])).length) Slot.unset).toArray = ls at hl ⊢
  have hl : lv_has ls 2 [(0, .int a0), (1, .int a1)] := hl
  unfold f_X7_within at hf
  refine lv_iload_n hx hb dX7_within_0 rfl (lv_at hl 0 rfl) ?_
  refine lv_if_ge (tgt := 8) hx hb dX7_within_1 (by decide) (fun b1 => ?_) (fun b1 => ?_)
  · have hf2 := zYes hf b1
    clear hf
    refine lv_iload_n hx hb dX7_within_8 rfl (lv_at hl 0 rfl) ?_
    refine lv_iload_n hx hb dX7_within_9 rfl (lv_at hl 1 rfl) ?_
    refine lv_icmp_le (tgt := 17) hx hb dX7_within_10 (by decide) (fun b3 => ?_) (fun b3 => ?_)
    · have hf4 := zYes hf2 b3
      clear hf2
      refine lv_iload_n hx hb dX7_within_17 rfl (lv_at hl 0 rfl) ?_
      exact zy_iret X hr hlk Z (zEnd hf4) dX7_within_18
    · have hf5 := zNot hf2 b3
      clear hf2
      refine lv_iload_n hx hb dX7_within_13 rfl (lv_at hl 1 rfl) ?_
      refine lv_goto (tgt := 18) hx hb dX7_within_14 (by decide) ?_
      exact zy_iret X hr hlk Z (zEnd hf5) dX7_within_18
  · have hf6 := zNot hf b1
    clear hf
    refine lv_iconst (v := 0) hx hb dX7_within_4 (by decide) ?_
    refine lv_goto (tgt := 18) hx hb dX7_within_5 (by decide) ?_
    exact zy_iret X hr hlk Z (zEnd hf6) dX7_within_18
def f_X7_holds  (σ : zg_S) : Option (Int32 × zg_S) := zbd (f_X7_within (σ 1 7) (12 - (σ 1 8)) σ) (fun (r1 : Int32) (σ2 : zg_S) => zlet (zg_up σ2 1 7 r1) (fun (σ8 : zg_S) => some (0, σ8)))
set_option maxHeartbeats 4000000 in
set_option maxRecDepth 100000 in
theorem c_X7_holds (l : Launch) (D : va_G) (V : zz_V) (ad : Nat → Nat) (cA : Nat → ClassId)   (σ : zg_S) (r0 : Int32) (σf : zg_S) (hf : f_X7_holds  σ = some (r0, σf)) : zM_V l yX7_holds wsX7_holds 1 21 D V ML ad cA [.ref (ad 0)] σ r0 σf := by
  intro sz
  refine Met.ofW (cc := cX7_holds) (maxL := 1) (ret := none) (by decide) rfl ?_
  intro p e s m args below meth c s₁ B hml hv
  obtain ⟨rfl, hC⟩ := hv
  have hx := B.exec
  have hb := B.bytes
  have hr := B.returns
  have hts := atoms_spec (ws := wsX7_holds) B.pre
  have hown : s.vm.findClass RX7 = some m.cls := findClass_of_methodNamed B.named
  have hlk := B.notSynchronized
  have X : CallFix p m c cX7_holds 1 s _ wsX7_holds RX7 := ⟨hx, hb, hml, hown, hts⟩
  have Z := zz_enter hC
  generalize va_A (zg_W ML ad cA σ) sz = A at Z ⊢
  have hl := lv_entry ([.ref (ad 0)]) (n := 1) (Nat.le_of_ble_eq_true rfl)
  rw [lg_entry_eq]
  generalize (lg_sl ([.ref (ad 0)]) ++ List.replicate (1 - (lg_sl ([.ref (ad 0)])).length) Slot.unset).toArray = ls at hl ⊢
  have hl : lv_has ls 1 [(0, .ref (ad 0))] := hl
  unfold f_X7_holds at hf
  refine lv_aload_n hx hb dX7_holds_0 rfl (lv_at hl 0 rfl) ?_
  refine zy_get (v := .ref (ad 1)) X Z mL_ok mk_0 rfl rfl (fun w h => List.mem_cons_of_mem _ (List.mem_append_right _ h)) 0 rfl (zz_m 1 rfl) rfl dX7_holds_1 ?_
  refine lv_bipush (v := 7) hx hb dX7_holds_4 (by decide) ?_
  refine lv_aload_n hx hb dX7_holds_6 rfl (lv_at hl 0 rfl) ?_
  refine zy_get (v := .ref (ad 1)) X Z mL_ok mk_0 rfl rfl (fun w h => List.mem_cons_of_mem _ (List.mem_append_right _ h)) 0 rfl (zz_m 1 rfl) rfl dX7_holds_7 ?_
  refine lv_bipush (v := 7) hx hb dX7_holds_10 (by decide) ?_
  refine zy_ild X Z mL_ok mk_1 ml_1 (zz_in 7 3047 rfl) dX7_holds_12 ?_
  refine zz_v (v := σ 1 7) rfl ?_
  refine lv_bipush (v := 12) hx hb dX7_holds_13 (by decide) ?_
  refine lv_aload_n hx hb dX7_holds_15 rfl (lv_at hl 0 rfl) ?_
  refine zy_get (v := .ref (ad 1)) X Z mL_ok mk_0 rfl rfl (fun w h => List.mem_cons_of_mem _ (List.mem_append_right _ h)) 0 rfl (zz_m 1 rfl) rfl dX7_holds_16 ?_
  refine lv_bipush (v := 8) hx hb dX7_holds_19 (by decide) ?_
  refine zy_ild X Z mL_ok mk_1 ml_1 (zz_in 8 3047 rfl) dX7_holds_21 ?_
  refine zz_v (v := σ 1 8) rfl ?_
  refine lv_isub hx hb dX7_holds_22 ?_
  obtain ⟨r1, σ2, hc3, hf4⟩ := zBd hf
  clear hf
  refine zy_ci (r0 := r1) (WS1 := zg_W ML ad cA σ2) (TYS1 := zg_T ML cA) Z (va_runS (As := [.int (σ 1 7), .int (12 - (σ 1 8))]) (rest := [.int 7, .ref (ad 1)]) X (c_X7_within l D V ad cA (σ 1 7) (12 - (σ 1 8)) σ r1 σ2 hc3 s.heap.size) (va_cwS 2 hts gX7_holds_X7_within rfl rfl rfl zh_X7_within ⟨Nat.le_of_ble_eq_true rfl, Nat.le_of_ble_eq_true rfl⟩) (zz_pS Z) rfl rfl hl.1 rfl (lv_room (Nat.le_of_ble_eq_true rfl)) dX7_holds_23 ⟨Nat.le_of_ble_eq_true rfl, Nat.le_of_ble_eq_true rfl⟩) (fun H5 lo6 Z7 => ?_)
  clear Z hc3
  obtain ⟨σ8, es9, hf10⟩ := zLet hf4
  clear hf4
  refine zy_ist (σ' := σ8) X Z7 mL_ok mk_1 ml_1 (zz_in 7 3047 rfl) es9 dX7_holds_26 (fun H11 lo12 Z13 => ?_)
  clear Z7 es9
  exact zy_vret X hr hlk Z13 (zEnd hf10) dX7_holds_27
def f_X7_shadeFrom  (σ : zg_S) : Option (Int32 × zg_S) := some ((σ 1 7) + ((((σ 1 2) - (σ 1 2) / 10 * 10) - 5) / 2), σ)
set_option maxHeartbeats 4000000 in
set_option maxRecDepth 100000 in
theorem c_X7_shadeFrom (l : Launch) (D : va_G) (V : zz_V) (ad : Nat → Nat) (cA : Nat → ClassId)   (σ : zg_S) (r0 : Int32) (σf : zg_S) (hf : f_X7_shadeFrom  σ = some (r0, σf)) : zM_I l yX7_shadeFrom wsX7_shadeFrom 0 0 D V ML ad cA [.ref (ad 0)] σ r0 σf := by
  intro sz
  refine Met.ofW (cc := cX7_shadeFrom) (maxL := 1) (ret := (some .int)) (by decide) rfl ?_
  intro p e s m args below meth c s₁ B hml hv
  obtain ⟨rfl, hC⟩ := hv
  have hx := B.exec
  have hb := B.bytes
  have hr := B.returns
  have hts := atoms_spec (ws := wsX7_shadeFrom) B.pre
  have hown : s.vm.findClass RX7 = some m.cls := findClass_of_methodNamed B.named
  have hlk := B.notSynchronized
  have X : CallFix p m c cX7_shadeFrom 1 s _ wsX7_shadeFrom RX7 := ⟨hx, hb, hml, hown, hts⟩
  have Z := zz_enter hC
  generalize va_A (zg_W ML ad cA σ) sz = A at Z ⊢
  have hl := lv_entry ([.ref (ad 0)]) (n := 1) (Nat.le_of_ble_eq_true rfl)
  rw [lg_entry_eq]
  generalize (lg_sl ([.ref (ad 0)]) ++ List.replicate (1 - (lg_sl ([.ref (ad 0)])).length) Slot.unset).toArray = ls at hl ⊢
  have hl : lv_has ls 1 [(0, .ref (ad 0))] := hl
  unfold f_X7_shadeFrom at hf
  refine lv_aload_n hx hb dX7_shadeFrom_0 rfl (lv_at hl 0 rfl) ?_
  refine zy_get (v := .ref (ad 1)) X Z mL_ok mk_0 rfl rfl (fun w h => List.mem_cons_of_mem _ (List.mem_append_right _ h)) 0 rfl (zz_m 1 rfl) rfl dX7_shadeFrom_1 ?_
  refine lv_bipush (v := 7) hx hb dX7_shadeFrom_4 (by decide) ?_
  refine zy_ild X Z mL_ok mk_1 ml_1 (zz_in 7 3047 rfl) dX7_shadeFrom_6 ?_
  refine zz_v (v := σ 1 7) rfl ?_
  refine lv_aload_n hx hb dX7_shadeFrom_7 rfl (lv_at hl 0 rfl) ?_
  refine zy_get (v := .ref (ad 1)) X Z mL_ok mk_0 rfl rfl (fun w h => List.mem_cons_of_mem _ (List.mem_append_right _ h)) 0 rfl (zz_m 1 rfl) rfl dX7_shadeFrom_8 ?_
  refine lv_iconst (v := 2) hx hb dX7_shadeFrom_11 (by decide) ?_
  refine zy_ild X Z mL_ok mk_1 ml_1 (zz_in 2 3047 rfl) dX7_shadeFrom_12 ?_
  refine zz_v (v := σ 1 2) rfl ?_
  refine lv_bipush (v := 10) hx hb dX7_shadeFrom_13 (by decide) ?_
  refine lv_irem hx hb dX7_shadeFrom_15 (by decide) ?_
  refine lv_iconst (v := 5) hx hb dX7_shadeFrom_16 (by decide) ?_
  refine lv_isub hx hb dX7_shadeFrom_17 ?_
  refine lv_iconst (v := 2) hx hb dX7_shadeFrom_18 (by decide) ?_
  refine lv_idiv hx hb dX7_shadeFrom_19 (by decide) ?_
  refine lv_iadd hx hb dX7_shadeFrom_20 ?_
  exact zy_iret X hr hlk Z (zEnd hf) dX7_shadeFrom_21
def f_X7_isShaded (a1 : Int32) (σ : zg_S) : Option (Int32 × zg_S) := zbd (f_X7_of a1 1 σ) (fun (r1 : Int32) (σ2 : zg_S) => zbd (f_X7_shadeFrom σ2) (fun (r8 : Int32) (σ9 : zg_S) => zbd (f_X7_shadeFrom σ9) (fun (r15 : Int32) (σ16 : zg_S) => zbd (f_X7_isIn (Int32.toInt64 r1) (Int32.toInt64 r8) (Int32.toInt64 ((r15 + (σ16 1 8)) - 1)) σ16) (fun (r22 : Int32) (σ23 : zg_S) => (if r22 = 0 ∨ r22 = 1 then some (r22, σ23) else none)))))
set_option maxHeartbeats 4000000 in
set_option maxRecDepth 100000 in
theorem c_X7_isShaded (l : Launch) (D : va_G) (V : zz_V) (ad : Nat → Nat) (cA : Nat → ClassId) (a1 : Int32)  (σ : zg_S) (r0 : Int32) (σf : zg_S) (hf : f_X7_isShaded a1 σ = some (r0, σf)) : zM_I l yX7_isShaded wsX7_isShaded 1 25 D V ML ad cA [.ref (ad 0), .int a1] σ r0 σf := by
  intro sz
  refine Met.ofW (cc := cX7_isShaded) (maxL := 2) (ret := (some .boolean)) (by decide) rfl ?_
  intro p e s m args below meth c s₁ B hml hv
  obtain ⟨rfl, hC⟩ := hv
  have hx := B.exec
  have hb := B.bytes
  have hr := B.returns
  have hts := atoms_spec (ws := wsX7_isShaded) B.pre
  have hown : s.vm.findClass RX7 = some m.cls := findClass_of_methodNamed B.named
  have hlk := B.notSynchronized
  have X : CallFix p m c cX7_isShaded 2 s _ wsX7_isShaded RX7 := ⟨hx, hb, hml, hown, hts⟩
  have Z := zz_enter hC
  generalize va_A (zg_W ML ad cA σ) sz = A at Z ⊢
  have hl := lv_entry ([.ref (ad 0), .int a1]) (n := 2) (Nat.le_of_ble_eq_true rfl)
  rw [lg_entry_eq]
  generalize (lg_sl ([.ref (ad 0), .int a1]) ++ List.replicate (2 - (lg_sl ([.ref (ad 0), .int a1])).length) Slot.unset).toArray = ls at hl ⊢
  have hl : lv_has ls 2 [(0, .ref (ad 0)), (1, .int a1)] := hl
  unfold f_X7_isShaded at hf
  refine lv_aload_n hx hb dX7_isShaded_0 rfl (lv_at hl 0 rfl) ?_
  refine lv_iload_n hx hb dX7_isShaded_1 rfl (lv_at hl 1 rfl) ?_
  refine lv_iconst (v := 1) hx hb dX7_isShaded_2 (by decide) ?_
  obtain ⟨r1, σ2, hc3, hf4⟩ := zBd hf
  clear hf
  refine zy_ci (r0 := r1) (WS1 := zg_W ML ad cA σ2) (TYS1 := zg_T ML cA) Z (va_runV (As := [.int a1, .int 1]) (rest := []) X (c_X7_of l D V ad cA a1 1 σ r1 σ2 hc3 s.heap.size) (cwV 2 hts gX7_isShaded_X7_of rfl rfl rfl ⟨rfl, zh_X7_of⟩ ⟨Nat.le_of_ble_eq_true rfl, Nat.le_of_ble_eq_true rfl⟩) (zy_pV (ci := 7) Z mL_ok mk_0 rfl rfl) rfl rfl hl.1 rfl (lv_room (Nat.le_of_ble_eq_true rfl)) dX7_isShaded_3 ⟨Nat.le_of_ble_eq_true rfl, Nat.le_of_ble_eq_true rfl⟩) (fun H5 lo6 Z7 => ?_)
  clear Z hc3
  refine lv_i2l (v := Int32.toInt64 r1) hx hb dX7_isShaded_6 rfl ?_
  refine lv_aload_n hx hb dX7_isShaded_7 rfl (lv_at hl 0 rfl) ?_
  obtain ⟨r8, σ9, hc10, hf11⟩ := zBd hf4
  clear hf4
  refine zy_ci (r0 := r8) (WS1 := zg_W ML ad cA σ9) (TYS1 := zg_T ML cA) Z7 (va_runV (As := []) (rest := [.long (Int32.toInt64 r1)]) X (c_X7_shadeFrom l D V ad cA  σ2 r8 σ9 hc10 H5.size) (cwV 0 hts gX7_isShaded_X7_shadeFrom rfl rfl rfl ⟨rfl, zh_X7_shadeFrom⟩ ⟨Nat.le_of_ble_eq_true rfl, Nat.le_of_ble_eq_true rfl⟩) (zy_pV (ci := 7) Z7 mL_ok mk_0 rfl rfl) rfl rfl hl.1 rfl (lv_room (Nat.le_of_ble_eq_true rfl)) dX7_isShaded_8 ⟨Nat.le_of_ble_eq_true rfl, Nat.le_of_ble_eq_true rfl⟩) (fun H12 lo13 Z14 => ?_)
  clear Z7 hc10
  refine lv_i2l (v := Int32.toInt64 r8) hx hb dX7_isShaded_11 rfl ?_
  refine lv_aload_n hx hb dX7_isShaded_12 rfl (lv_at hl 0 rfl) ?_
  obtain ⟨r15, σ16, hc17, hf18⟩ := zBd hf11
  clear hf11
  refine zy_ci (r0 := r15) (WS1 := zg_W ML ad cA σ16) (TYS1 := zg_T ML cA) Z14 (va_runV (As := []) (rest := [.long (Int32.toInt64 r8), .long (Int32.toInt64 r1)]) X (c_X7_shadeFrom l D V ad cA  σ9 r15 σ16 hc17 H12.size) (cwV 0 hts gX7_isShaded_X7_shadeFrom rfl rfl rfl ⟨rfl, zh_X7_shadeFrom⟩ ⟨Nat.le_of_ble_eq_true rfl, Nat.le_of_ble_eq_true rfl⟩) (zy_pV (ci := 7) Z14 mL_ok mk_0 rfl rfl) rfl rfl hl.1 rfl (lv_room (Nat.le_of_ble_eq_true rfl)) dX7_isShaded_13 ⟨Nat.le_of_ble_eq_true rfl, Nat.le_of_ble_eq_true rfl⟩) (fun H19 lo20 Z21 => ?_)
  clear Z14 hc17
  refine lv_aload_n hx hb dX7_isShaded_16 rfl (lv_at hl 0 rfl) ?_
  refine zy_get (v := .ref (ad 1)) X Z21 mL_ok mk_0 rfl rfl (fun w h => List.mem_cons_of_mem _ (List.mem_append_right _ h)) 0 rfl (zz_m 1 rfl) rfl dX7_isShaded_17 ?_
  refine lv_bipush (v := 8) hx hb dX7_isShaded_20 (by decide) ?_
  refine zy_ild X Z21 mL_ok mk_1 ml_1 (zz_in 8 3047 rfl) dX7_isShaded_22 ?_
  refine zz_v (v := σ16 1 8) rfl ?_
  refine lv_iadd hx hb dX7_isShaded_23 ?_
  refine lv_iconst (v := 1) hx hb dX7_isShaded_24 (by decide) ?_
  refine lv_isub hx hb dX7_isShaded_25 ?_
  refine lv_i2l (v := Int32.toInt64 ((r15 + (σ16 1 8)) - 1)) hx hb dX7_isShaded_26 rfl ?_
  obtain ⟨r22, σ23, hc24, hf25⟩ := zBd hf18
  clear hf18
  refine zy_ci (r0 := r22) (WS1 := zg_W ML ad cA σ23) (TYS1 := zg_T ML cA) Z21 (va_runS (As := [.long (Int32.toInt64 r1), .long (Int32.toInt64 r8), .long (Int32.toInt64 ((r15 + (σ16 1 8)) - 1))]) (rest := []) X (c_X7_isIn l D V ad cA (Int32.toInt64 r1) (Int32.toInt64 r8) (Int32.toInt64 ((r15 + (σ16 1 8)) - 1)) σ16 r22 σ23 hc24 H19.size) (va_cwS 3 hts gX7_isShaded_X7_isIn rfl rfl rfl zh_X7_isIn ⟨Nat.le_of_ble_eq_true rfl, Nat.le_of_ble_eq_true rfl⟩) (zz_pS Z21) rfl rfl hl.1 rfl (lv_room (Nat.le_of_ble_eq_true rfl)) dX7_isShaded_27 ⟨Nat.le_of_ble_eq_true rfl, Nat.le_of_ble_eq_true rfl⟩) (fun H26 lo27 Z28 => ?_)
  clear Z21 hc24
  obtain ⟨z30, hf29⟩ := zC hf25
  exact zy_zret X hr hlk Z28 z30 (zEnd hf29) dX7_isShaded_30
def B_X7_payNow_33 (rec4_ : Int32 → Int32 → zg_S → Option (Int32 × zg_S)) (x2 : Int32) (y0 : Int32) (y1 : Int32) (σ : zg_S) : Option (Int32 × zg_S) := rec4_ (y1 + y0) (x2 + 1) σ
def B_X7_payNow_4 (rec4_ : Int32 → Int32 → zg_S → Option (Int32 × zg_S)) (x1 : Int32) (x2 : Int32) (σ : zg_S) : Option (Int32 × zg_S) := (if (σ 1 0) ≤ x2 then some (x1, σ) else zbd (f_X7_isShaded x2 σ) (fun (r8 : Int32) (σ9 : zg_S) => (if r8 = 0 then B_X7_payNow_33 rec4_ x2 0 x1 σ9 else zbd (f_X7_of x2 3 σ9) (fun (r18 : Int32) (σ19 : zg_S) => B_X7_payNow_33 rec4_ x2 r18 x1 σ19))))
def L_X7_payNow_4 : Nat → Int32 → Int32 → zg_S → Option (Int32 × zg_S) := zfix (fun _ _ _ => none) (B_X7_payNow_4)
def f_X7_payNow  (σ : zg_S) : Option (Int32 × zg_S) := L_X7_payNow_4 zfu 0 0 σ
set_option maxHeartbeats 4000000 in
set_option maxRecDepth 100000 in
theorem c_X7_payNow (l : Launch) (D : va_G) (V : zz_V) (ad : Nat → Nat) (cA : Nat → ClassId)   (σ : zg_S) (r0 : Int32) (σf : zg_S) (hf : f_X7_payNow  σ = some (r0, σf)) : zM_I l yX7_payNow wsX7_payNow 2 46 D V ML ad cA [.ref (ad 0)] σ r0 σf := by
  intro sz
  refine Met.ofW (cc := cX7_payNow) (maxL := 3) (ret := (some .int)) (by decide) rfl ?_
  intro p e s m args below meth c s₁ B hml hv
  obtain ⟨rfl, hC⟩ := hv
  have hx := B.exec
  have hb := B.bytes
  have hr := B.returns
  have hts := atoms_spec (ws := wsX7_payNow) B.pre
  have hown : s.vm.findClass RX7 = some m.cls := findClass_of_methodNamed B.named
  have hlk := B.notSynchronized
  have X : CallFix p m c cX7_payNow 3 s _ wsX7_payNow RX7 := ⟨hx, hb, hml, hown, hts⟩
  have Z := zz_enter hC
  generalize va_A (zg_W ML ad cA σ) sz = A at Z ⊢
  have hl := lv_entry ([.ref (ad 0)]) (n := 3) (Nat.le_of_ble_eq_true rfl)
  rw [lg_entry_eq]
  generalize (lg_sl ([.ref (ad 0)]) ++ List.replicate (3 - (lg_sl ([.ref (ad 0)])).length) Slot.unset).toArray = ls at hl ⊢
  have hl : lv_has ls 3 [(0, .ref (ad 0))] := hl
  unfold f_X7_payNow at hf
  have b4_ : ∀ (k4_ : Nat) (x1 : Int32) (x2 : Int32) (σ : zg_S), L_X7_payNow_4 k4_ x1 x2 σ = some (r0, σf) → ∀ (H : Heap) (locs : List Loc) (ls : Array Slot), zz_S D V A s (zg_W ML ad cA σ) (zg_T ML cA) H locs → lv_has ls 3 [(0, .ref (ad 0)), (1, .int x1), (2, .int x2)] → W p l e (headSpec wsX7_payNow { frames := 2, cells := 0, slots := 0, locals := 46 }).room s m (List.toArray [.ref (ad 0)]) below meth c H locs 0 0 (MQ below (va_Qi (fun r (_ : Unit) => r = r0) (fun _ t => zz_B D A (zg_W ML ad cA σf) (zg_T ML cA) t) A) (List.toArray [.ref (ad 0)]) s 0 0 A) (F0 m 4 ls []) := by
    intro k4_
    induction k4_ with
    | zero =>
        intro x1 x2 σ hf4_ H4_ locs4_ ls4_ Z4_ hl4_
        exact zNone hf4_
    | succ k4_ ih4_ =>
        intro x1 x2 σ hf4_ H4_ locs4_ ls4_ Z4_ hl4_
        replace hf4_ : B_X7_payNow_4 (L_X7_payNow_4 k4_) x1 x2 σ = some (r0, σf) := hf4_
        unfold B_X7_payNow_4 at hf4_
        have b33_ : ∀ (x2 : Int32) (y0 : Int32) (y1 : Int32) (σ : zg_S), B_X7_payNow_33 (L_X7_payNow_4 k4_) x2 y0 y1 σ = some (r0, σf) → ∀ (H : Heap) (locs : List Loc) (ls : Array Slot), zz_S D V A s (zg_W ML ad cA σ) (zg_T ML cA) H locs → lv_has ls 3 [(0, .ref (ad 0)), (2, .int x2)] → W p l e (headSpec wsX7_payNow { frames := 2, cells := 0, slots := 0, locals := 46 }).room s m (List.toArray [.ref (ad 0)]) below meth c H locs 0 0 (MQ below (va_Qi (fun r (_ : Unit) => r = r0) (fun _ t => zz_B D A (zg_W ML ad cA σf) (zg_T ML cA) t) A) (List.toArray [.ref (ad 0)]) s 0 0 A) (F0 m 33 ls [.int y0, .int y1]) := by
          intro x2 y0 y1 σ hf33_ H33_ locs33_ ls33_ Z33_ hl33_
          unfold B_X7_payNow_33 at hf33_
          refine lv_iadd hx hb dX7_payNow_33 ?_
          refine lv_istore_n (lv' := [(1, .int (y1 + y0)), (0, .ref (ad 0)), (2, .int x2)]) hx hb dX7_payNow_34 rfl hl33_ (by decide) rfl (fun ls2 hl1 => ?_)
          clear hl33_
          refine lv_iinc (v := (x2 + 1)) (lv' := [(2, .int (x2 + 1)), (1, .int (y1 + y0)), (0, .ref (ad 0))]) hx hb dX7_payNow_35 hl1 (k := 2) rfl rfl (by decide) rfl (fun ls4 hl3 => ?_)
          clear hl1
          refine lv_goto (tgt := 4) hx hb dX7_payNow_38 (by decide) ?_
          exact ih4_ (y1 + y0) (x2 + 1) σ hf33_ _ _ _ Z33_ (lv_sub hl3 [2, 1, 0] rfl)
        refine lv_iload_n hx hb dX7_payNow_4 rfl (lv_at hl4_ 2 rfl) ?_
        refine lv_aload_n hx hb dX7_payNow_5 rfl (lv_at hl4_ 0 rfl) ?_
        refine zy_get (v := .ref (ad 1)) X Z4_ mL_ok mk_0 rfl rfl (fun w h => List.mem_cons_of_mem _ (List.mem_append_right _ h)) 0 rfl (zz_m 1 rfl) rfl dX7_payNow_6 ?_
        refine lv_iconst (v := 0) hx hb dX7_payNow_9 (by decide) ?_
        refine zy_ild X Z4_ mL_ok mk_1 ml_1 (zz_in 0 3047 rfl) dX7_payNow_10 ?_
        refine zz_v (v := σ 1 0) rfl ?_
        refine lv_icmp_ge (tgt := 41) hx hb dX7_payNow_11 (by decide) (fun b5 => ?_) (fun b5 => ?_)
        · have hf6 := zYes hf4_ b5
          clear hf4_
          refine lv_iload_n hx hb dX7_payNow_41 rfl (lv_at hl4_ 1 rfl) ?_
          exact zy_iret X hr hlk Z4_ (zEnd hf6) dX7_payNow_42
        · have hf7 := zNot hf4_ b5
          clear hf4_
          refine lv_iload_n hx hb dX7_payNow_14 rfl (lv_at hl4_ 1 rfl) ?_
          refine lv_aload_n hx hb dX7_payNow_15 rfl (lv_at hl4_ 0 rfl) ?_
          refine lv_iload_n hx hb dX7_payNow_16 rfl (lv_at hl4_ 2 rfl) ?_
          obtain ⟨r8, σ9, hc10, hf11⟩ := zBd hf7
          clear hf7
          refine zy_ci (r0 := r8) (WS1 := zg_W ML ad cA σ9) (TYS1 := zg_T ML cA) Z4_ (va_runV (As := [.int x2]) (rest := [.int x1]) X (c_X7_isShaded l D V ad cA x2 σ r8 σ9 hc10 H4_.size) (cwV 1 hts gX7_payNow_X7_isShaded rfl rfl rfl ⟨rfl, zh_X7_isShaded⟩ ⟨Nat.le_of_ble_eq_true rfl, Nat.le_of_ble_eq_true rfl⟩) (zy_pV (ci := 7) Z4_ mL_ok mk_0 rfl rfl) rfl rfl hl4_.1 rfl (lv_room (Nat.le_of_ble_eq_true rfl)) dX7_payNow_17 ⟨Nat.le_of_ble_eq_true rfl, Nat.le_of_ble_eq_true rfl⟩) (fun H12 lo13 Z14 => ?_)
          clear Z4_ hc10
          refine lv_if_eq (tgt := 32) hx hb dX7_payNow_20 (by decide) (fun b15 => ?_) (fun b15 => ?_)
          · have hf16 := zYes hf11 b15
            clear hf11
            refine lv_iconst (v := 0) hx hb dX7_payNow_32 (by decide) ?_
            exact b33_ x2 0 x1 σ9 hf16 _ _ _ Z14 (lv_sub hl4_ [0, 2] rfl)
          · have hf17 := zNot hf11 b15
            clear hf11
            refine lv_aload_n hx hb dX7_payNow_23 rfl (lv_at hl4_ 0 rfl) ?_
            refine lv_iload_n hx hb dX7_payNow_24 rfl (lv_at hl4_ 2 rfl) ?_
            refine lv_iconst (v := 3) hx hb dX7_payNow_25 (by decide) ?_
            obtain ⟨r18, σ19, hc20, hf21⟩ := zBd hf17
            clear hf17
            refine zy_ci (r0 := r18) (WS1 := zg_W ML ad cA σ19) (TYS1 := zg_T ML cA) Z14 (va_runV (As := [.int x2, .int 3]) (rest := [.int x1]) X (c_X7_of l D V ad cA x2 3 σ9 r18 σ19 hc20 H12.size) (cwV 2 hts gX7_payNow_X7_of rfl rfl rfl ⟨rfl, zh_X7_of⟩ ⟨Nat.le_of_ble_eq_true rfl, Nat.le_of_ble_eq_true rfl⟩) (zy_pV (ci := 7) Z14 mL_ok mk_0 rfl rfl) rfl rfl hl4_.1 rfl (lv_room (Nat.le_of_ble_eq_true rfl)) dX7_payNow_26 ⟨Nat.le_of_ble_eq_true rfl, Nat.le_of_ble_eq_true rfl⟩) (fun H22 lo23 Z24 => ?_)
            clear Z14 hc20
            refine lv_goto (tgt := 33) hx hb dX7_payNow_29 (by decide) ?_
            exact b33_ x2 r18 x1 σ19 hf21 _ _ _ Z24 (lv_sub hl4_ [0, 2] rfl)
  refine lv_iconst (v := 0) hx hb dX7_payNow_0 (by decide) ?_
  refine lv_istore_n (lv' := [(1, .int 0), (0, .ref (ad 0))]) hx hb dX7_payNow_1 rfl hl (by decide) rfl (fun ls26 hl25 => ?_)
  clear hl
  refine lv_iconst (v := 0) hx hb dX7_payNow_2 (by decide) ?_
  refine lv_istore_n (lv' := [(2, .int 0), (1, .int 0), (0, .ref (ad 0))]) hx hb dX7_payNow_3 rfl hl25 (by decide) rfl (fun ls28 hl27 => ?_)
  clear hl25
  exact b4_ zfu 0 0 σ hf _ _ _ Z (lv_sub hl27 [2, 1, 0] rfl)
def f_X7_payIf (a1 : Int32) (σ : zg_S) : Option (Int32 × zg_S) := zlet (zg_up σ 1 7 ((σ 1 7) + a1)) (fun (σ3 : zg_S) => zbd (f_X7_holds σ3) (fun (r9 : Int32) (σ10 : zg_S) => zbd (f_X7_payNow σ10) (fun (r16 : Int32) (σ17 : zg_S) => zlet (zg_up σ17 1 7 (σ 1 7)) (fun (σ25 : zg_S) => some (r16, σ25)))))
set_option maxHeartbeats 4000000 in
set_option maxRecDepth 100000 in
theorem c_X7_payIf (l : Launch) (D : va_G) (V : zz_V) (ad : Nat → Nat) (cA : Nat → ClassId) (a1 : Int32)  (σ : zg_S) (r0 : Int32) (σf : zg_S) (hf : f_X7_payIf a1 σ = some (r0, σf)) : zM_I l yX7_payIf wsX7_payIf 3 68 D V ML ad cA [.ref (ad 0), .int a1] σ r0 σf := by
  intro sz
  refine Met.ofW (cc := cX7_payIf) (maxL := 4) (ret := (some .int)) (by decide) rfl ?_
  intro p e s m args below meth c s₁ B hml hv
  obtain ⟨rfl, hC⟩ := hv
  have hx := B.exec
  have hb := B.bytes
  have hr := B.returns
  have hts := atoms_spec (ws := wsX7_payIf) B.pre
  have hown : s.vm.findClass RX7 = some m.cls := findClass_of_methodNamed B.named
  have hlk := B.notSynchronized
  have X : CallFix p m c cX7_payIf 4 s _ wsX7_payIf RX7 := ⟨hx, hb, hml, hown, hts⟩
  have Z := zz_enter hC
  generalize va_A (zg_W ML ad cA σ) sz = A at Z ⊢
  have hl := lv_entry ([.ref (ad 0), .int a1]) (n := 4) (Nat.le_of_ble_eq_true rfl)
  rw [lg_entry_eq]
  generalize (lg_sl ([.ref (ad 0), .int a1]) ++ List.replicate (4 - (lg_sl ([.ref (ad 0), .int a1])).length) Slot.unset).toArray = ls at hl ⊢
  have hl : lv_has ls 4 [(0, .ref (ad 0)), (1, .int a1)] := hl
  unfold f_X7_payIf at hf
  refine lv_aload_n hx hb dX7_payIf_0 rfl (lv_at hl 0 rfl) ?_
  refine zy_get (v := .ref (ad 1)) X Z mL_ok mk_0 rfl rfl (fun w h => List.mem_cons_of_mem _ (List.mem_append_right _ h)) 0 rfl (zz_m 1 rfl) rfl dX7_payIf_1 ?_
  refine lv_bipush (v := 7) hx hb dX7_payIf_4 (by decide) ?_
  refine zy_ild X Z mL_ok mk_1 ml_1 (zz_in 7 3047 rfl) dX7_payIf_6 ?_
  refine zz_v (v := σ 1 7) rfl ?_
  refine lv_istore_n (lv' := [(2, .int (σ 1 7)), (0, .ref (ad 0)), (1, .int a1)]) hx hb dX7_payIf_7 rfl hl (by decide) rfl (fun ls2 hl1 => ?_)
  clear hl
  refine lv_aload_n hx hb dX7_payIf_8 rfl (lv_at hl1 1 rfl) ?_
  refine zy_get (v := .ref (ad 1)) X Z mL_ok mk_0 rfl rfl (fun w h => List.mem_cons_of_mem _ (List.mem_append_right _ h)) 0 rfl (zz_m 1 rfl) rfl dX7_payIf_9 ?_
  refine lv_bipush (v := 7) hx hb dX7_payIf_12 (by decide) ?_
  refine lv_dup2_11 hx hb dX7_payIf_14 rfl rfl ?_
  refine zy_ild X Z mL_ok mk_1 ml_1 (zz_in 7 3047 rfl) dX7_payIf_15 ?_
  refine zz_v (v := σ 1 7) rfl ?_
  refine lv_iload_n hx hb dX7_payIf_16 rfl (lv_at hl1 2 rfl) ?_
  refine lv_iadd hx hb dX7_payIf_17 ?_
  obtain ⟨σ3, es4, hf5⟩ := zLet hf
  clear hf
  refine zy_ist (σ' := σ3) X Z mL_ok mk_1 ml_1 (zz_in 7 3047 rfl) es4 dX7_payIf_18 (fun H6 lo7 Z8 => ?_)
  clear Z es4
  refine lv_aload_n hx hb dX7_payIf_19 rfl (lv_at hl1 1 rfl) ?_
  obtain ⟨r9, σ10, hc11, hf12⟩ := zBd hf5
  clear hf5
  refine zy_cv (WS1 := zg_W ML ad cA σ10) (TYS1 := zg_T ML cA) Z8 (va_runV (As := []) (rest := []) X (c_X7_holds l D V ad cA  σ3 r9 σ10 hc11 H6.size) (cwV 0 hts gX7_payIf_X7_holds rfl rfl rfl ⟨rfl, zh_X7_holds⟩ ⟨Nat.le_of_ble_eq_true rfl, Nat.le_of_ble_eq_true rfl⟩) (zy_pV (ci := 7) Z8 mL_ok mk_0 rfl rfl) rfl rfl hl1.1 rfl (lv_room (Nat.le_of_ble_eq_true rfl)) dX7_payIf_20 ⟨Nat.le_of_ble_eq_true rfl, Nat.le_of_ble_eq_true rfl⟩) (fun H13 lo14 Z15 => ?_)
  clear Z8 hc11
  refine lv_aload_n hx hb dX7_payIf_23 rfl (lv_at hl1 1 rfl) ?_
  obtain ⟨r16, σ17, hc18, hf19⟩ := zBd hf12
  clear hf12
  refine zy_ci (r0 := r16) (WS1 := zg_W ML ad cA σ17) (TYS1 := zg_T ML cA) Z15 (va_runV (As := []) (rest := []) X (c_X7_payNow l D V ad cA  σ10 r16 σ17 hc18 H13.size) (cwV 0 hts gX7_payIf_X7_payNow rfl rfl rfl ⟨rfl, zh_X7_payNow⟩ ⟨Nat.le_of_ble_eq_true rfl, Nat.le_of_ble_eq_true rfl⟩) (zy_pV (ci := 7) Z15 mL_ok mk_0 rfl rfl) rfl rfl hl1.1 rfl (lv_room (Nat.le_of_ble_eq_true rfl)) dX7_payIf_24 ⟨Nat.le_of_ble_eq_true rfl, Nat.le_of_ble_eq_true rfl⟩) (fun H20 lo21 Z22 => ?_)
  clear Z15 hc18
  refine lv_istore_n (lv' := [(3, .int r16), (2, .int (σ 1 7)), (0, .ref (ad 0)), (1, .int a1)]) hx hb dX7_payIf_27 rfl hl1 (by decide) rfl (fun ls24 hl23 => ?_)
  clear hl1
  refine lv_aload_n hx hb dX7_payIf_28 rfl (lv_at hl23 2 rfl) ?_
  refine zy_get (v := .ref (ad 1)) X Z22 mL_ok mk_0 rfl rfl (fun w h => List.mem_cons_of_mem _ (List.mem_append_right _ h)) 0 rfl (zz_m 1 rfl) rfl dX7_payIf_29 ?_
  refine lv_bipush (v := 7) hx hb dX7_payIf_32 (by decide) ?_
  refine lv_iload_n hx hb dX7_payIf_34 rfl (lv_at hl23 1 rfl) ?_
  obtain ⟨σ25, es26, hf27⟩ := zLet hf19
  clear hf19
  refine zy_ist (σ' := σ25) X Z22 mL_ok mk_1 ml_1 (zz_in 7 3047 rfl) es26 dX7_payIf_35 (fun H28 lo29 Z30 => ?_)
  clear Z22 es26
  refine lv_iload_n hx hb dX7_payIf_36 rfl (lv_at hl23 0 rfl) ?_
  exact zy_iret X hr hlk Z30 (zEnd hf27) dX7_payIf_37
def f_X7_textAt (a1 : Int32) (σ : zg_S) : Option (Int32 × zg_S) := some (47 + (200 * a1), σ)
set_option maxHeartbeats 4000000 in
set_option maxRecDepth 100000 in
theorem c_X7_textAt (l : Launch) (D : va_G) (V : zz_V) (ad : Nat → Nat) (cA : Nat → ClassId) (a1 : Int32)  (σ : zg_S) (r0 : Int32) (σf : zg_S) (hf : f_X7_textAt a1 σ = some (r0, σf)) : zM_I l yX7_textAt wsX7_textAt 0 0 D V ML ad cA [.ref (ad 0), .int a1] σ r0 σf := by
  intro sz
  refine Met.ofW (cc := cX7_textAt) (maxL := 2) (ret := (some .int)) (by decide) rfl ?_
  intro p e s m args below meth c s₁ B hml hv
  obtain ⟨rfl, hC⟩ := hv
  have hx := B.exec
  have hb := B.bytes
  have hr := B.returns
  have hts := atoms_spec (ws := wsX7_textAt) B.pre
  have hown : s.vm.findClass RX7 = some m.cls := findClass_of_methodNamed B.named
  have hlk := B.notSynchronized
  have X : CallFix p m c cX7_textAt 2 s _ wsX7_textAt RX7 := ⟨hx, hb, hml, hown, hts⟩
  have Z := zz_enter hC
  generalize va_A (zg_W ML ad cA σ) sz = A at Z ⊢
  have hl := lv_entry ([.ref (ad 0), .int a1]) (n := 2) (Nat.le_of_ble_eq_true rfl)
  rw [lg_entry_eq]
  generalize (lg_sl ([.ref (ad 0), .int a1]) ++ List.replicate (2 - (lg_sl ([.ref (ad 0), .int a1])).length) Slot.unset).toArray = ls at hl ⊢
  have hl : lv_has ls 2 [(0, .ref (ad 0)), (1, .int a1)] := hl
  unfold f_X7_textAt at hf
  refine lv_bipush (v := 47) hx hb dX7_textAt_0 (by decide) ?_
  refine lv_sipush (v := 200) hx hb dX7_textAt_2 (by decide) ?_
  refine lv_iload_n hx hb dX7_textAt_5 rfl (lv_at hl 1 rfl) ?_
  refine lv_imul hx hb dX7_textAt_6 ?_
  refine lv_iadd hx hb dX7_textAt_7 ?_
  exact zy_iret X hr hlk Z (zEnd hf) dX7_textAt_8
def B_X7_counts_33 (a1 : Int32) (rec4_ : Int32 → Int32 → zg_S → Option (Int32 × zg_S)) (x3 : Int32) (y0 : Int32) (σ : zg_S) : Option (Int32 × zg_S) := rec4_ y0 (x3 + 1) σ
def B_X7_counts_4 (a1 : Int32) (rec4_ : Int32 → Int32 → zg_S → Option (Int32 × zg_S)) (x2 : Int32) (x3 : Int32) (σ : zg_S) : Option (Int32 × zg_S) := (if (σ 1 1) ≤ x3 then some (x2, σ) else zbd (f_X7_textAt x3 σ) (fun (r8 : Int32) (σ9 : zg_S) => (if zin r8 3047 = true then (if (σ9 1 (Int32.toNatClampNeg r8)) = a1 then B_X7_counts_33 a1 rec4_ x3 x3 σ9 else B_X7_counts_33 a1 rec4_ x3 x2 σ9) else none)))
def L_X7_counts_4 (a1 : Int32) : Nat → Int32 → Int32 → zg_S → Option (Int32 × zg_S) := zfix (fun _ _ _ => none) (B_X7_counts_4 a1)
def f_X7_counts (a1 : Int32) (σ : zg_S) : Option (Int32 × zg_S) := L_X7_counts_4 a1 zfu (-1) 0 σ
set_option maxHeartbeats 4000000 in
set_option maxRecDepth 100000 in
theorem c_X7_counts (l : Launch) (D : va_G) (V : zz_V) (ad : Nat → Nat) (cA : Nat → ClassId) (a1 : Int32)  (σ : zg_S) (r0 : Int32) (σf : zg_S) (hf : f_X7_counts a1 σ = some (r0, σf)) : zM_I l yX7_counts wsX7_counts 1 21 D V ML ad cA [.ref (ad 0), .int a1] σ r0 σf := by
  intro sz
  refine Met.ofW (cc := cX7_counts) (maxL := 4) (ret := (some .int)) (by decide) rfl ?_
  intro p e s m args below meth c s₁ B hml hv
  obtain ⟨rfl, hC⟩ := hv
  have hx := B.exec
  have hb := B.bytes
  have hr := B.returns
  have hts := atoms_spec (ws := wsX7_counts) B.pre
  have hown : s.vm.findClass RX7 = some m.cls := findClass_of_methodNamed B.named
  have hlk := B.notSynchronized
  have X : CallFix p m c cX7_counts 4 s _ wsX7_counts RX7 := ⟨hx, hb, hml, hown, hts⟩
  have Z := zz_enter hC
  generalize va_A (zg_W ML ad cA σ) sz = A at Z ⊢
  have hl := lv_entry ([.ref (ad 0), .int a1]) (n := 4) (Nat.le_of_ble_eq_true rfl)
  rw [lg_entry_eq]
  generalize (lg_sl ([.ref (ad 0), .int a1]) ++ List.replicate (4 - (lg_sl ([.ref (ad 0), .int a1])).length) Slot.unset).toArray = ls at hl ⊢
  have hl : lv_has ls 4 [(0, .ref (ad 0)), (1, .int a1)] := hl
  unfold f_X7_counts at hf
  have b4_ : ∀ (k4_ : Nat) (x2 : Int32) (x3 : Int32) (σ : zg_S), L_X7_counts_4 a1 k4_ x2 x3 σ = some (r0, σf) → ∀ (H : Heap) (locs : List Loc) (ls : Array Slot), zz_S D V A s (zg_W ML ad cA σ) (zg_T ML cA) H locs → lv_has ls 4 [(0, .ref (ad 0)), (1, .int a1), (2, .int x2), (3, .int x3)] → W p l e (headSpec wsX7_counts { frames := 1, cells := 0, slots := 0, locals := 21 }).room s m (List.toArray [.ref (ad 0), .int a1]) below meth c H locs 0 0 (MQ below (va_Qi (fun r (_ : Unit) => r = r0) (fun _ t => zz_B D A (zg_W ML ad cA σf) (zg_T ML cA) t) A) (List.toArray [.ref (ad 0), .int a1]) s 0 0 A) (F0 m 4 ls []) := by
    intro k4_
    induction k4_ with
    | zero =>
        intro x2 x3 σ hf4_ H4_ locs4_ ls4_ Z4_ hl4_
        exact zNone hf4_
    | succ k4_ ih4_ =>
        intro x2 x3 σ hf4_ H4_ locs4_ ls4_ Z4_ hl4_
        replace hf4_ : B_X7_counts_4 a1 (L_X7_counts_4 a1 k4_) x2 x3 σ = some (r0, σf) := hf4_
        unfold B_X7_counts_4 at hf4_
        have b33_ : ∀ (x3 : Int32) (y0 : Int32) (σ : zg_S), B_X7_counts_33 a1 (L_X7_counts_4 a1 k4_) x3 y0 σ = some (r0, σf) → ∀ (H : Heap) (locs : List Loc) (ls : Array Slot), zz_S D V A s (zg_W ML ad cA σ) (zg_T ML cA) H locs → lv_has ls 4 [(0, .ref (ad 0)), (1, .int a1), (3, .int x3)] → W p l e (headSpec wsX7_counts { frames := 1, cells := 0, slots := 0, locals := 21 }).room s m (List.toArray [.ref (ad 0), .int a1]) below meth c H locs 0 0 (MQ below (va_Qi (fun r (_ : Unit) => r = r0) (fun _ t => zz_B D A (zg_W ML ad cA σf) (zg_T ML cA) t) A) (List.toArray [.ref (ad 0), .int a1]) s 0 0 A) (F0 m 33 ls [.int y0]) := by
          intro x3 y0 σ hf33_ H33_ locs33_ ls33_ Z33_ hl33_
          unfold B_X7_counts_33 at hf33_
          refine lv_istore_n (lv' := [(2, .int y0), (0, .ref (ad 0)), (1, .int a1), (3, .int x3)]) hx hb dX7_counts_33 rfl hl33_ (by decide) rfl (fun ls2 hl1 => ?_)
          clear hl33_
          refine lv_iinc (v := (x3 + 1)) (lv' := [(3, .int (x3 + 1)), (2, .int y0), (0, .ref (ad 0)), (1, .int a1)]) hx hb dX7_counts_34 hl1 (k := 3) rfl rfl (by decide) rfl (fun ls4 hl3 => ?_)
          clear hl1
          refine lv_goto (tgt := 4) hx hb dX7_counts_37 (by decide) ?_
          exact ih4_ y0 (x3 + 1) σ hf33_ _ _ _ Z33_ (lv_sub hl3 [2, 3, 1, 0] rfl)
        refine lv_iload_n hx hb dX7_counts_4 rfl (lv_at hl4_ 3 rfl) ?_
        refine lv_aload_n hx hb dX7_counts_5 rfl (lv_at hl4_ 0 rfl) ?_
        refine zy_get (v := .ref (ad 1)) X Z4_ mL_ok mk_0 rfl rfl (fun w h => List.mem_cons_of_mem _ (List.mem_append_right _ h)) 0 rfl (zz_m 1 rfl) rfl dX7_counts_6 ?_
        refine lv_iconst (v := 1) hx hb dX7_counts_9 (by decide) ?_
        refine zy_ild X Z4_ mL_ok mk_1 ml_1 (zz_in 1 3047 rfl) dX7_counts_10 ?_
        refine zz_v (v := σ 1 1) rfl ?_
        refine lv_icmp_ge (tgt := 40) hx hb dX7_counts_11 (by decide) (fun b5 => ?_) (fun b5 => ?_)
        · have hf6 := zYes hf4_ b5
          clear hf4_
          refine lv_iload_n hx hb dX7_counts_40 rfl (lv_at hl4_ 2 rfl) ?_
          exact zy_iret X hr hlk Z4_ (zEnd hf6) dX7_counts_41
        · have hf7 := zNot hf4_ b5
          clear hf4_
          refine lv_aload_n hx hb dX7_counts_14 rfl (lv_at hl4_ 0 rfl) ?_
          refine zy_get (v := .ref (ad 1)) X Z4_ mL_ok mk_0 rfl rfl (fun w h => List.mem_cons_of_mem _ (List.mem_append_right _ h)) 0 rfl (zz_m 1 rfl) rfl dX7_counts_15 ?_
          refine lv_aload_n hx hb dX7_counts_18 rfl (lv_at hl4_ 0 rfl) ?_
          refine lv_iload_n hx hb dX7_counts_19 rfl (lv_at hl4_ 3 rfl) ?_
          obtain ⟨r8, σ9, hc10, hf11⟩ := zBd hf7
          clear hf7
          refine zy_ci (r0 := r8) (WS1 := zg_W ML ad cA σ9) (TYS1 := zg_T ML cA) Z4_ (va_runV (As := [.int x3]) (rest := [.ref (ad 1)]) X (c_X7_textAt l D V ad cA x3 σ r8 σ9 hc10 H4_.size) (cwV 1 hts gX7_counts_X7_textAt rfl rfl rfl ⟨rfl, zh_X7_textAt⟩ ⟨Nat.le_of_ble_eq_true rfl, Nat.le_of_ble_eq_true rfl⟩) (zy_pV (ci := 7) Z4_ mL_ok mk_0 rfl rfl) rfl rfl hl4_.1 rfl (lv_room (Nat.le_of_ble_eq_true rfl)) dX7_counts_20 ⟨Nat.le_of_ble_eq_true rfl, Nat.le_of_ble_eq_true rfl⟩) (fun H12 lo13 Z14 => ?_)
          clear Z4_ hc10
          obtain ⟨⟨i15, j16⟩, hf17⟩ := zG hf11
          clear hf11
          refine zy_ild X Z14 mL_ok mk_1 ml_1 i15 dX7_counts_23 ?_
          refine lv_iload_n hx hb dX7_counts_24 rfl (lv_at hl4_ 1 rfl) ?_
          refine lv_icmp_ne (tgt := 32) hx hb dX7_counts_25 (by decide) (fun b18 => ?_) (fun b18 => ?_)
          · have hf19 := zNot hf17 b18
            clear hf17
            refine lv_iload_n hx hb dX7_counts_32 rfl (lv_at hl4_ 2 rfl) ?_
            exact b33_ x3 x2 σ9 hf19 _ _ _ Z14 (lv_sub hl4_ [0, 1, 3] rfl)
          · have hf20 := zYes hf17 b18
            clear hf17
            refine lv_iload_n hx hb dX7_counts_28 rfl (lv_at hl4_ 3 rfl) ?_
            refine lv_goto (tgt := 33) hx hb dX7_counts_29 (by decide) ?_
            exact b33_ x3 x3 σ9 hf20 _ _ _ Z14 (lv_sub hl4_ [0, 1, 3] rfl)
  refine lv_iconst (v := (-1)) hx hb dX7_counts_0 (by decide) ?_
  refine lv_istore_n (lv' := [(2, .int (-1)), (0, .ref (ad 0)), (1, .int a1)]) hx hb dX7_counts_1 rfl hl (by decide) rfl (fun ls22 hl21 => ?_)
  clear hl
  refine lv_iconst (v := 0) hx hb dX7_counts_2 (by decide) ?_
  refine lv_istore_n (lv' := [(3, .int 0), (2, .int (-1)), (0, .ref (ad 0)), (1, .int a1)]) hx hb dX7_counts_3 rfl hl21 (by decide) rfl (fun ls24 hl23 => ?_)
  clear hl21
  exact b4_ zfu (-1) 0 σ hf _ _ _ Z (lv_sub hl23 [2, 3, 1, 0] rfl)
def f_X7_off (a0 : Int32) (a1 : Int32) (σ : zg_S) : Option (Int32 × zg_S) := (if a1 ≤ a0 then some (a0 - a1, σ) else some (a1 - a0, σ))
set_option maxHeartbeats 4000000 in
set_option maxRecDepth 100000 in
theorem c_X7_off (l : Launch) (D : va_G) (V : zz_V) (ad : Nat → Nat) (cA : Nat → ClassId) (a0 : Int32) (a1 : Int32)  (σ : zg_S) (r0 : Int32) (σf : zg_S) (hf : f_X7_off a0 a1 σ = some (r0, σf)) : zM_I l yX7_off wsX7_off 0 0 D V ML ad cA [.int a0, .int a1] σ r0 σf := by
  intro sz
  refine Met.ofW (cc := cX7_off) (maxL := 2) (ret := (some .int)) (by decide) rfl ?_
  intro p e s m args below meth c s₁ B hml hv
  obtain ⟨rfl, hC⟩ := hv
  have hx := B.exec
  have hb := B.bytes
  have hr := B.returns
  have hts := atoms_spec (ws := wsX7_off) B.pre
  have hown : s.vm.findClass RX7 = some m.cls := findClass_of_methodNamed B.named
  have hlk := B.notSynchronized
  have X : CallFix p m c cX7_off 2 s _ wsX7_off RX7 := ⟨hx, hb, hml, hown, hts⟩
  have Z := zz_enter hC
  generalize va_A (zg_W ML ad cA σ) sz = A at Z ⊢
  have hl := lv_entry ([.int a0, .int a1]) (n := 2) (Nat.le_of_ble_eq_true rfl)
  rw [lg_entry_eq]
  generalize (lg_sl ([.int a0, .int a1]) ++ List.replicate (2 - (lg_sl ([.int a0, .int a1])).length) Slot.unset).toArray = ls at hl ⊢
  have hl : lv_has ls 2 [(0, .int a0), (1, .int a1)] := hl
  unfold f_X7_off at hf
  refine lv_iload_n hx hb dX7_off_0 rfl (lv_at hl 0 rfl) ?_
  refine lv_iload_n hx hb dX7_off_1 rfl (lv_at hl 1 rfl) ?_
  refine lv_icmp_ge (tgt := 11) hx hb dX7_off_2 (by decide) (fun b1 => ?_) (fun b1 => ?_)
  · have hf2 := zYes hf b1
    clear hf
    refine lv_iload_n hx hb dX7_off_11 rfl (lv_at hl 0 rfl) ?_
    refine lv_iload_n hx hb dX7_off_12 rfl (lv_at hl 1 rfl) ?_
    refine lv_isub hx hb dX7_off_13 ?_
    exact zy_iret X hr hlk Z (zEnd hf2) dX7_off_14
  · have hf3 := zNot hf b1
    clear hf
    refine lv_iload_n hx hb dX7_off_5 rfl (lv_at hl 1 rfl) ?_
    refine lv_iload_n hx hb dX7_off_6 rfl (lv_at hl 0 rfl) ?_
    refine lv_isub hx hb dX7_off_7 ?_
    refine lv_goto (tgt := 14) hx hb dX7_off_8 (by decide) ?_
    exact zy_iret X hr hlk Z (zEnd hf3) dX7_off_14
def f_X7_heat  (σ : zg_S) : Option (Int32 × zg_S) := zbd (f_X7_off ((σ 1 2) - (σ 1 2) / 10 * 10) 5 σ) (fun (r1 : Int32) (σ2 : zg_S) => some (45 - (5 * r1), σ2))
set_option maxHeartbeats 4000000 in
set_option maxRecDepth 100000 in
theorem c_X7_heat (l : Launch) (D : va_G) (V : zz_V) (ad : Nat → Nat) (cA : Nat → ClassId)   (σ : zg_S) (r0 : Int32) (σf : zg_S) (hf : f_X7_heat  σ = some (r0, σf)) : zM_I l yX7_heat wsX7_heat 1 21 D V ML ad cA [.ref (ad 0)] σ r0 σf := by
  intro sz
  refine Met.ofW (cc := cX7_heat) (maxL := 1) (ret := (some .int)) (by decide) rfl ?_
  intro p e s m args below meth c s₁ B hml hv
  obtain ⟨rfl, hC⟩ := hv
  have hx := B.exec
  have hb := B.bytes
  have hr := B.returns
  have hts := atoms_spec (ws := wsX7_heat) B.pre
  have hown : s.vm.findClass RX7 = some m.cls := findClass_of_methodNamed B.named
  have hlk := B.notSynchronized
  have X : CallFix p m c cX7_heat 1 s _ wsX7_heat RX7 := ⟨hx, hb, hml, hown, hts⟩
  have Z := zz_enter hC
  generalize va_A (zg_W ML ad cA σ) sz = A at Z ⊢
  have hl := lv_entry ([.ref (ad 0)]) (n := 1) (Nat.le_of_ble_eq_true rfl)
  rw [lg_entry_eq]
  generalize (lg_sl ([.ref (ad 0)]) ++ List.replicate (1 - (lg_sl ([.ref (ad 0)])).length) Slot.unset).toArray = ls at hl ⊢
  have hl : lv_has ls 1 [(0, .ref (ad 0))] := hl
  unfold f_X7_heat at hf
  refine lv_bipush (v := 45) hx hb dX7_heat_0 (by decide) ?_
  refine lv_iconst (v := 5) hx hb dX7_heat_2 (by decide) ?_
  refine lv_aload_n hx hb dX7_heat_3 rfl (lv_at hl 0 rfl) ?_
  refine zy_get (v := .ref (ad 1)) X Z mL_ok mk_0 rfl rfl (fun w h => List.mem_cons_of_mem _ (List.mem_append_right _ h)) 0 rfl (zz_m 1 rfl) rfl dX7_heat_4 ?_
  refine lv_iconst (v := 2) hx hb dX7_heat_7 (by decide) ?_
  refine zy_ild X Z mL_ok mk_1 ml_1 (zz_in 2 3047 rfl) dX7_heat_8 ?_
  refine zz_v (v := σ 1 2) rfl ?_
  refine lv_bipush (v := 10) hx hb dX7_heat_9 (by decide) ?_
  refine lv_irem hx hb dX7_heat_11 (by decide) ?_
  refine lv_iconst (v := 5) hx hb dX7_heat_12 (by decide) ?_
  obtain ⟨r1, σ2, hc3, hf4⟩ := zBd hf
  clear hf
  refine zy_ci (r0 := r1) (WS1 := zg_W ML ad cA σ2) (TYS1 := zg_T ML cA) Z (va_runS (As := [.int ((σ 1 2) - (σ 1 2) / 10 * 10), .int 5]) (rest := [.int 5, .int 45]) X (c_X7_off l D V ad cA ((σ 1 2) - (σ 1 2) / 10 * 10) 5 σ r1 σ2 hc3 s.heap.size) (va_cwS 2 hts gX7_heat_X7_off rfl rfl rfl zh_X7_off ⟨Nat.le_of_ble_eq_true rfl, Nat.le_of_ble_eq_true rfl⟩) (zz_pS Z) rfl rfl hl.1 rfl (lv_room (Nat.le_of_ble_eq_true rfl)) dX7_heat_13 ⟨Nat.le_of_ble_eq_true rfl, Nat.le_of_ble_eq_true rfl⟩) (fun H5 lo6 Z7 => ?_)
  clear Z hc3
  refine lv_imul hx hb dX7_heat_16 ?_
  refine lv_isub hx hb dX7_heat_17 ?_
  exact zy_iret X hr hlk Z7 (zEnd hf4) dX7_heat_18
def B_X7_joined_197 (a0 : Int32) (a1 : Int32) (a2 : Int32) (σ : zg_S) : Option (Int32 × zg_S) := (if a1 = 0 then (if a2 = 0 then some (0, σ) else some (1, σ)) else some (1, σ))
def f_X7_joined (a0 : Int32) (a1 : Int32) (a2 : Int32) (σ : zg_S) : Option (Int32 × zg_S) := (if a0 = 38 then (if a1 = 0 then some (0, σ) else (if a2 = 0 then some (0, σ) else some (1, σ))) else (if a0 = 39 then B_X7_joined_197 a0 a1 a2 σ else (if a0 = 40 then B_X7_joined_197 a0 a1 a2 σ else (if a0 = 41 then B_X7_joined_197 a0 a1 a2 σ else (if a0 = 42 then some (a1 * a2, σ) else (if a0 = 43 then some (a1 + a2, σ) else (if a0 = 44 then B_X7_joined_197 a0 a1 a2 σ else (if a0 = 45 then some (a1 - a2, σ) else (if a0 = 46 then B_X7_joined_197 a0 a1 a2 σ else (if a0 = 47 then (if a2 = 0 then some (0, σ) else (if a2 = (-1) then some (-a1, σ) else (if a2 = 0 then none else some (a1 / a2, σ)))) else (if a0 = 48 then B_X7_joined_197 a0 a1 a2 σ else (if a0 = 49 then B_X7_joined_197 a0 a1 a2 σ else (if a0 = 50 then B_X7_joined_197 a0 a1 a2 σ else (if a0 = 51 then B_X7_joined_197 a0 a1 a2 σ else (if a0 = 52 then B_X7_joined_197 a0 a1 a2 σ else (if a0 = 53 then B_X7_joined_197 a0 a1 a2 σ else (if a0 = 54 then B_X7_joined_197 a0 a1 a2 σ else (if a0 = 55 then B_X7_joined_197 a0 a1 a2 σ else (if a0 = 56 then B_X7_joined_197 a0 a1 a2 σ else (if a0 = 57 then B_X7_joined_197 a0 a1 a2 σ else (if a0 = 58 then B_X7_joined_197 a0 a1 a2 σ else (if a0 = 59 then B_X7_joined_197 a0 a1 a2 σ else (if a0 = 60 then (if a2 ≤ a1 then some (0, σ) else some (1, σ)) else (if a0 = 61 then (if a1 = a2 then some (1, σ) else some (0, σ)) else (if a0 = 62 then (if a1 ≤ a2 then some (0, σ) else some (1, σ)) else B_X7_joined_197 a0 a1 a2 σ)))))))))))))))))))))))))
set_option maxHeartbeats 4000000 in
set_option maxRecDepth 100000 in
theorem c_X7_joined (l : Launch) (D : va_G) (V : zz_V) (ad : Nat → Nat) (cA : Nat → ClassId) (a0 : Int32) (a1 : Int32) (a2 : Int32)  (σ : zg_S) (r0 : Int32) (σf : zg_S) (hf : f_X7_joined a0 a1 a2 σ = some (r0, σf)) : zM_I l yX7_joined wsX7_joined 0 0 D V ML ad cA [.int a0, .int a1, .int a2] σ r0 σf := by
  intro sz
  refine Met.ofW (cc := cX7_joined) (maxL := 3) (ret := (some .int)) (by decide) rfl ?_
  intro p e s m args below meth c s₁ B hml hv
  obtain ⟨rfl, hC⟩ := hv
  have hx := B.exec
  have hb := B.bytes
  have hr := B.returns
  have hts := atoms_spec (ws := wsX7_joined) B.pre
  have hown : s.vm.findClass RX7 = some m.cls := findClass_of_methodNamed B.named
  have hlk := B.notSynchronized
  have X : CallFix p m c cX7_joined 3 s _ wsX7_joined RX7 := ⟨hx, hb, hml, hown, hts⟩
  have Z := zz_enter hC
  generalize va_A (zg_W ML ad cA σ) sz = A at Z ⊢
  have hl := lv_entry ([.int a0, .int a1, .int a2]) (n := 3) (Nat.le_of_ble_eq_true rfl)
  rw [lg_entry_eq]
  generalize (lg_sl ([.int a0, .int a1, .int a2]) ++ List.replicate (3 - (lg_sl ([.int a0, .int a1, .int a2])).length) Slot.unset).toArray = ls at hl ⊢
  have hl : lv_has ls 3 [(0, .int a0), (1, .int a1), (2, .int a2)] := hl
  unfold f_X7_joined at hf
  have b197_ : ∀ (σ : zg_S), B_X7_joined_197 a0 a1 a2  σ = some (r0, σf) → ∀ (H : Heap) (locs : List Loc) (ls : Array Slot), zz_S D V A s (zg_W ML ad cA σ) (zg_T ML cA) H locs → lv_has ls 3 [(1, .int a1), (2, .int a2)] → W p l e (headSpec wsX7_joined { frames := 0, cells := 0, slots := 0, locals := 0 }).room s m (List.toArray [.int a0, .int a1, .int a2]) below meth c H locs 0 0 (MQ below (va_Qi (fun r (_ : Unit) => r = r0) (fun _ t => zz_B D A (zg_W ML ad cA σf) (zg_T ML cA) t) A) (List.toArray [.int a0, .int a1, .int a2]) s 0 0 A) (F0 m 197 ls []) := by
    intro σ hf197_ H197_ locs197_ ls197_ Z197_ hl197_
    unfold B_X7_joined_197 at hf197_
    refine lv_iload_n hx hb dX7_joined_197 rfl (lv_at hl197_ 0 rfl) ?_
    refine lv_if_ne (tgt := 205) hx hb dX7_joined_198 (by decide) (fun b1 => ?_) (fun b1 => ?_)
    · have hf2 := zNot hf197_ b1
      clear hf197_
      refine lv_iconst (v := 1) hx hb dX7_joined_205 (by decide) ?_
      refine lv_goto (tgt := 210) hx hb dX7_joined_206 (by decide) ?_
      exact zy_iret X hr hlk Z197_ (zEnd hf2) dX7_joined_210
    · have hf3 := zYes hf197_ b1
      clear hf197_
      refine lv_iload_n hx hb dX7_joined_201 rfl (lv_at hl197_ 1 rfl) ?_
      refine lv_if_eq (tgt := 209) hx hb dX7_joined_202 (by decide) (fun b4 => ?_) (fun b4 => ?_)
      · have hf5 := zYes hf3 b4
        clear hf3
        refine lv_iconst (v := 0) hx hb dX7_joined_209 (by decide) ?_
        exact zy_iret X hr hlk Z197_ (zEnd hf5) dX7_joined_210
      · have hf6 := zNot hf3 b4
        clear hf3
        refine lv_iconst (v := 1) hx hb dX7_joined_205 (by decide) ?_
        refine lv_goto (tgt := 210) hx hb dX7_joined_206 (by decide) ?_
        exact zy_iret X hr hlk Z197_ (zEnd hf6) dX7_joined_210
  refine lv_iload_n hx hb dX7_joined_0 rfl (lv_at hl 0 rfl) ?_
  by_cases w7 : a0 = 38
  · have hf8 := zYes hf w7
    clear hf
    refine zz_v w7 ?_
    refine lv_tableIn (x := 38) (off := 182) (tgt := 183) hx hb dX7_joined_1 (by decide) (by decide) rfl (by decide) ?_
    refine lv_iload_n hx hb dX7_joined_183 rfl (lv_at hl 1 rfl) ?_
    refine lv_if_eq (tgt := 195) hx hb dX7_joined_184 (by decide) (fun b9 => ?_) (fun b9 => ?_)
    · have hf10 := zYes hf8 b9
      clear hf8
      refine lv_iconst (v := 0) hx hb dX7_joined_195 (by decide) ?_
      exact zy_iret X hr hlk Z (zEnd hf10) dX7_joined_196
    · have hf11 := zNot hf8 b9
      clear hf8
      refine lv_iload_n hx hb dX7_joined_187 rfl (lv_at hl 2 rfl) ?_
      refine lv_if_eq (tgt := 195) hx hb dX7_joined_188 (by decide) (fun b12 => ?_) (fun b12 => ?_)
      · have hf13 := zYes hf11 b12
        clear hf11
        refine lv_iconst (v := 0) hx hb dX7_joined_195 (by decide) ?_
        exact zy_iret X hr hlk Z (zEnd hf13) dX7_joined_196
      · have hf14 := zNot hf11 b12
        clear hf11
        refine lv_iconst (v := 1) hx hb dX7_joined_191 (by decide) ?_
        refine lv_goto (tgt := 196) hx hb dX7_joined_192 (by decide) ?_
        exact zy_iret X hr hlk Z (zEnd hf14) dX7_joined_196
  · have hf15 := zNot hf w7
    clear hf
    by_cases w16 : a0 = 39
    · have hf17 := zYes hf15 w16
      clear hf15
      refine zz_v w16 ?_
      refine lv_tableIn (x := 39) (off := 196) (tgt := 197) hx hb dX7_joined_1 (by decide) (by decide) rfl (by decide) ?_
      exact b197_ σ hf17 _ _ _ Z (lv_sub hl [1, 2] rfl)
    · have hf18 := zNot hf15 w16
      clear hf15
      by_cases w19 : a0 = 40
      · have hf20 := zYes hf18 w19
        clear hf18
        refine zz_v w19 ?_
        refine lv_tableIn (x := 40) (off := 196) (tgt := 197) hx hb dX7_joined_1 (by decide) (by decide) rfl (by decide) ?_
        exact b197_ σ hf20 _ _ _ Z (lv_sub hl [1, 2] rfl)
      · have hf21 := zNot hf18 w19
        clear hf18
        by_cases w22 : a0 = 41
        · have hf23 := zYes hf21 w22
          clear hf21
          refine zz_v w22 ?_
          refine lv_tableIn (x := 41) (off := 196) (tgt := 197) hx hb dX7_joined_1 (by decide) (by decide) rfl (by decide) ?_
          exact b197_ σ hf23 _ _ _ Z (lv_sub hl [1, 2] rfl)
        · have hf24 := zNot hf21 w22
          clear hf21
          by_cases w25 : a0 = 42
          · have hf26 := zYes hf24 w25
            clear hf24
            refine zz_v w25 ?_
            refine lv_tableIn (x := 42) (off := 123) (tgt := 124) hx hb dX7_joined_1 (by decide) (by decide) rfl (by decide) ?_
            refine lv_iload_n hx hb dX7_joined_124 rfl (lv_at hl 1 rfl) ?_
            refine lv_iload_n hx hb dX7_joined_125 rfl (lv_at hl 2 rfl) ?_
            refine lv_imul hx hb dX7_joined_126 ?_
            exact zy_iret X hr hlk Z (zEnd hf26) dX7_joined_127
          · have hf27 := zNot hf24 w25
            clear hf24
            by_cases w28 : a0 = 43
            · have hf29 := zYes hf27 w28
              clear hf27
              refine zz_v w28 ?_
              refine lv_tableIn (x := 43) (off := 115) (tgt := 116) hx hb dX7_joined_1 (by decide) (by decide) rfl (by decide) ?_
              refine lv_iload_n hx hb dX7_joined_116 rfl (lv_at hl 1 rfl) ?_
              refine lv_iload_n hx hb dX7_joined_117 rfl (lv_at hl 2 rfl) ?_
              refine lv_iadd hx hb dX7_joined_118 ?_
              exact zy_iret X hr hlk Z (zEnd hf29) dX7_joined_119
            · have hf30 := zNot hf27 w28
              clear hf27
              by_cases w31 : a0 = 44
              · have hf32 := zYes hf30 w31
                clear hf30
                refine zz_v w31 ?_
                refine lv_tableIn (x := 44) (off := 196) (tgt := 197) hx hb dX7_joined_1 (by decide) (by decide) rfl (by decide) ?_
                exact b197_ σ hf32 _ _ _ Z (lv_sub hl [1, 2] rfl)
              · have hf33 := zNot hf30 w31
                clear hf30
                by_cases w34 : a0 = 45
                · have hf35 := zYes hf33 w34
                  clear hf33
                  refine zz_v w34 ?_
                  refine lv_tableIn (x := 45) (off := 119) (tgt := 120) hx hb dX7_joined_1 (by decide) (by decide) rfl (by decide) ?_
                  refine lv_iload_n hx hb dX7_joined_120 rfl (lv_at hl 1 rfl) ?_
                  refine lv_iload_n hx hb dX7_joined_121 rfl (lv_at hl 2 rfl) ?_
                  refine lv_isub hx hb dX7_joined_122 ?_
                  exact zy_iret X hr hlk Z (zEnd hf35) dX7_joined_123
                · have hf36 := zNot hf33 w34
                  clear hf33
                  by_cases w37 : a0 = 46
                  · have hf38 := zYes hf36 w37
                    clear hf36
                    refine zz_v w37 ?_
                    refine lv_tableIn (x := 46) (off := 196) (tgt := 197) hx hb dX7_joined_1 (by decide) (by decide) rfl (by decide) ?_
                    exact b197_ σ hf38 _ _ _ Z (lv_sub hl [1, 2] rfl)
                  · have hf39 := zNot hf36 w37
                    clear hf36
                    by_cases w40 : a0 = 47
                    · have hf41 := zYes hf39 w40
                      clear hf39
                      refine zz_v w40 ?_
                      refine lv_tableIn (x := 47) (off := 127) (tgt := 128) hx hb dX7_joined_1 (by decide) (by decide) rfl (by decide) ?_
                      refine lv_iload_n hx hb dX7_joined_128 rfl (lv_at hl 2 rfl) ?_
                      refine lv_if_ne (tgt := 136) hx hb dX7_joined_129 (by decide) (fun b42 => ?_) (fun b42 => ?_)
                      · have hf43 := zNot hf41 b42
                        clear hf41
                        refine lv_iload_n hx hb dX7_joined_136 rfl (lv_at hl 2 rfl) ?_
                        refine lv_iconst (v := (-1)) hx hb dX7_joined_137 (by decide) ?_
                        refine lv_icmp_ne (tgt := 146) hx hb dX7_joined_138 (by decide) (fun b44 => ?_) (fun b44 => ?_)
                        · have hf45 := zNot hf43 b44
                          clear hf43
                          refine lv_iload_n hx hb dX7_joined_146 rfl (lv_at hl 1 rfl) ?_
                          refine lv_iload_n hx hb dX7_joined_147 rfl (lv_at hl 2 rfl) ?_
                          obtain ⟨z46, hf47⟩ := zD hf45
                          clear hf45
                          refine lv_idiv hx hb dX7_joined_148 z46 ?_
                          exact zy_iret X hr hlk Z (zEnd hf47) dX7_joined_149
                        · have hf48 := zYes hf43 b44
                          clear hf43
                          refine lv_iload_n hx hb dX7_joined_141 rfl (lv_at hl 1 rfl) ?_
                          refine lv_ineg hx hb dX7_joined_142 ?_
                          refine lv_goto (tgt := 149) hx hb dX7_joined_143 (by decide) ?_
                          exact zy_iret X hr hlk Z (zEnd hf48) dX7_joined_149
                      · have hf49 := zYes hf41 b42
                        clear hf41
                        refine lv_iconst (v := 0) hx hb dX7_joined_132 (by decide) ?_
                        refine lv_goto (tgt := 149) hx hb dX7_joined_133 (by decide) ?_
                        exact zy_iret X hr hlk Z (zEnd hf49) dX7_joined_149
                    · have hf50 := zNot hf39 w40
                      clear hf39
                      by_cases w51 : a0 = 48
                      · have hf52 := zYes hf50 w51
                        clear hf50
                        refine zz_v w51 ?_
                        refine lv_tableIn (x := 48) (off := 196) (tgt := 197) hx hb dX7_joined_1 (by decide) (by decide) rfl (by decide) ?_
                        exact b197_ σ hf52 _ _ _ Z (lv_sub hl [1, 2] rfl)
                      · have hf53 := zNot hf50 w51
                        clear hf50
                        by_cases w54 : a0 = 49
                        · have hf55 := zYes hf53 w54
                          clear hf53
                          refine zz_v w54 ?_
                          refine lv_tableIn (x := 49) (off := 196) (tgt := 197) hx hb dX7_joined_1 (by decide) (by decide) rfl (by decide) ?_
                          exact b197_ σ hf55 _ _ _ Z (lv_sub hl [1, 2] rfl)
                        · have hf56 := zNot hf53 w54
                          clear hf53
                          by_cases w57 : a0 = 50
                          · have hf58 := zYes hf56 w57
                            clear hf56
                            refine zz_v w57 ?_
                            refine lv_tableIn (x := 50) (off := 196) (tgt := 197) hx hb dX7_joined_1 (by decide) (by decide) rfl (by decide) ?_
                            exact b197_ σ hf58 _ _ _ Z (lv_sub hl [1, 2] rfl)
                          · have hf59 := zNot hf56 w57
                            clear hf56
                            by_cases w60 : a0 = 51
                            · have hf61 := zYes hf59 w60
                              clear hf59
                              refine zz_v w60 ?_
                              refine lv_tableIn (x := 51) (off := 196) (tgt := 197) hx hb dX7_joined_1 (by decide) (by decide) rfl (by decide) ?_
                              exact b197_ σ hf61 _ _ _ Z (lv_sub hl [1, 2] rfl)
                            · have hf62 := zNot hf59 w60
                              clear hf59
                              by_cases w63 : a0 = 52
                              · have hf64 := zYes hf62 w63
                                clear hf62
                                refine zz_v w63 ?_
                                refine lv_tableIn (x := 52) (off := 196) (tgt := 197) hx hb dX7_joined_1 (by decide) (by decide) rfl (by decide) ?_
                                exact b197_ σ hf64 _ _ _ Z (lv_sub hl [1, 2] rfl)
                              · have hf65 := zNot hf62 w63
                                clear hf62
                                by_cases w66 : a0 = 53
                                · have hf67 := zYes hf65 w66
                                  clear hf65
                                  refine zz_v w66 ?_
                                  refine lv_tableIn (x := 53) (off := 196) (tgt := 197) hx hb dX7_joined_1 (by decide) (by decide) rfl (by decide) ?_
                                  exact b197_ σ hf67 _ _ _ Z (lv_sub hl [1, 2] rfl)
                                · have hf68 := zNot hf65 w66
                                  clear hf65
                                  by_cases w69 : a0 = 54
                                  · have hf70 := zYes hf68 w69
                                    clear hf68
                                    refine zz_v w69 ?_
                                    refine lv_tableIn (x := 54) (off := 196) (tgt := 197) hx hb dX7_joined_1 (by decide) (by decide) rfl (by decide) ?_
                                    exact b197_ σ hf70 _ _ _ Z (lv_sub hl [1, 2] rfl)
                                  · have hf71 := zNot hf68 w69
                                    clear hf68
                                    by_cases w72 : a0 = 55
                                    · have hf73 := zYes hf71 w72
                                      clear hf71
                                      refine zz_v w72 ?_
                                      refine lv_tableIn (x := 55) (off := 196) (tgt := 197) hx hb dX7_joined_1 (by decide) (by decide) rfl (by decide) ?_
                                      exact b197_ σ hf73 _ _ _ Z (lv_sub hl [1, 2] rfl)
                                    · have hf74 := zNot hf71 w72
                                      clear hf71
                                      by_cases w75 : a0 = 56
                                      · have hf76 := zYes hf74 w75
                                        clear hf74
                                        refine zz_v w75 ?_
                                        refine lv_tableIn (x := 56) (off := 196) (tgt := 197) hx hb dX7_joined_1 (by decide) (by decide) rfl (by decide) ?_
                                        exact b197_ σ hf76 _ _ _ Z (lv_sub hl [1, 2] rfl)
                                      · have hf77 := zNot hf74 w75
                                        clear hf74
                                        by_cases w78 : a0 = 57
                                        · have hf79 := zYes hf77 w78
                                          clear hf77
                                          refine zz_v w78 ?_
                                          refine lv_tableIn (x := 57) (off := 196) (tgt := 197) hx hb dX7_joined_1 (by decide) (by decide) rfl (by decide) ?_
                                          exact b197_ σ hf79 _ _ _ Z (lv_sub hl [1, 2] rfl)
                                        · have hf80 := zNot hf77 w78
                                          clear hf77
                                          by_cases w81 : a0 = 58
                                          · have hf82 := zYes hf80 w81
                                            clear hf80
                                            refine zz_v w81 ?_
                                            refine lv_tableIn (x := 58) (off := 196) (tgt := 197) hx hb dX7_joined_1 (by decide) (by decide) rfl (by decide) ?_
                                            exact b197_ σ hf82 _ _ _ Z (lv_sub hl [1, 2] rfl)
                                          · have hf83 := zNot hf80 w81
                                            clear hf80
                                            by_cases w84 : a0 = 59
                                            · have hf85 := zYes hf83 w84
                                              clear hf83
                                              refine zz_v w84 ?_
                                              refine lv_tableIn (x := 59) (off := 196) (tgt := 197) hx hb dX7_joined_1 (by decide) (by decide) rfl (by decide) ?_
                                              exact b197_ σ hf85 _ _ _ Z (lv_sub hl [1, 2] rfl)
                                            · have hf86 := zNot hf83 w84
                                              clear hf83
                                              by_cases w87 : a0 = 60
                                              · have hf88 := zYes hf86 w87
                                                clear hf86
                                                refine zz_v w87 ?_
                                                refine lv_tableIn (x := 60) (off := 149) (tgt := 150) hx hb dX7_joined_1 (by decide) (by decide) rfl (by decide) ?_
                                                refine lv_iload_n hx hb dX7_joined_150 rfl (lv_at hl 1 rfl) ?_
                                                refine lv_iload_n hx hb dX7_joined_151 rfl (lv_at hl 2 rfl) ?_
                                                refine lv_icmp_ge (tgt := 159) hx hb dX7_joined_152 (by decide) (fun b89 => ?_) (fun b89 => ?_)
                                                · have hf90 := zYes hf88 b89
                                                  clear hf88
                                                  refine lv_iconst (v := 0) hx hb dX7_joined_159 (by decide) ?_
                                                  exact zy_iret X hr hlk Z (zEnd hf90) dX7_joined_160
                                                · have hf91 := zNot hf88 b89
                                                  clear hf88
                                                  refine lv_iconst (v := 1) hx hb dX7_joined_155 (by decide) ?_
                                                  refine lv_goto (tgt := 160) hx hb dX7_joined_156 (by decide) ?_
                                                  exact zy_iret X hr hlk Z (zEnd hf91) dX7_joined_160
                                              · have hf92 := zNot hf86 w87
                                                clear hf86
                                                by_cases w93 : a0 = 61
                                                · have hf94 := zYes hf92 w93
                                                  clear hf92
                                                  refine zz_v w93 ?_
                                                  refine lv_tableIn (x := 61) (off := 171) (tgt := 172) hx hb dX7_joined_1 (by decide) (by decide) rfl (by decide) ?_
                                                  refine lv_iload_n hx hb dX7_joined_172 rfl (lv_at hl 1 rfl) ?_
                                                  refine lv_iload_n hx hb dX7_joined_173 rfl (lv_at hl 2 rfl) ?_
                                                  refine lv_icmp_ne (tgt := 181) hx hb dX7_joined_174 (by decide) (fun b95 => ?_) (fun b95 => ?_)
                                                  · have hf96 := zNot hf94 b95
                                                    clear hf94
                                                    refine lv_iconst (v := 0) hx hb dX7_joined_181 (by decide) ?_
                                                    exact zy_iret X hr hlk Z (zEnd hf96) dX7_joined_182
                                                  · have hf97 := zYes hf94 b95
                                                    clear hf94
                                                    refine lv_iconst (v := 1) hx hb dX7_joined_177 (by decide) ?_
                                                    refine lv_goto (tgt := 182) hx hb dX7_joined_178 (by decide) ?_
                                                    exact zy_iret X hr hlk Z (zEnd hf97) dX7_joined_182
                                                · have hf98 := zNot hf92 w93
                                                  clear hf92
                                                  by_cases w99 : a0 = 62
                                                  · have hf100 := zYes hf98 w99
                                                    clear hf98
                                                    refine zz_v w99 ?_
                                                    refine lv_tableIn (x := 62) (off := 160) (tgt := 161) hx hb dX7_joined_1 (by decide) (by decide) rfl (by decide) ?_
                                                    refine lv_iload_n hx hb dX7_joined_161 rfl (lv_at hl 1 rfl) ?_
                                                    refine lv_iload_n hx hb dX7_joined_162 rfl (lv_at hl 2 rfl) ?_
                                                    refine lv_icmp_le (tgt := 170) hx hb dX7_joined_163 (by decide) (fun b101 => ?_) (fun b101 => ?_)
                                                    · have hf102 := zYes hf100 b101
                                                      clear hf100
                                                      refine lv_iconst (v := 0) hx hb dX7_joined_170 (by decide) ?_
                                                      exact zy_iret X hr hlk Z (zEnd hf102) dX7_joined_171
                                                    · have hf103 := zNot hf100 b101
                                                      clear hf100
                                                      refine lv_iconst (v := 1) hx hb dX7_joined_166 (by decide) ?_
                                                      refine lv_goto (tgt := 171) hx hb dX7_joined_167 (by decide) ?_
                                                      exact zy_iret X hr hlk Z (zEnd hf103) dX7_joined_171
                                                  · have hf104 := zNot hf98 w99
                                                    clear hf98
                                                    have n105 := zNe (k := 38) (y := 38) (by decide) w7
                                                    have n106 := zNe (k := 39) (y := 39) (by decide) w16
                                                    have n107 := zNe (k := 40) (y := 40) (by decide) w19
                                                    have n108 := zNe (k := 41) (y := 41) (by decide) w22
                                                    have n109 := zNe (k := 42) (y := 42) (by decide) w25
                                                    have n110 := zNe (k := 43) (y := 43) (by decide) w28
                                                    have n111 := zNe (k := 44) (y := 44) (by decide) w31
                                                    have n112 := zNe (k := 45) (y := 45) (by decide) w34
                                                    have n113 := zNe (k := 46) (y := 46) (by decide) w37
                                                    have n114 := zNe (k := 47) (y := 47) (by decide) w40
                                                    have n115 := zNe (k := 48) (y := 48) (by decide) w51
                                                    have n116 := zNe (k := 49) (y := 49) (by decide) w54
                                                    have n117 := zNe (k := 50) (y := 50) (by decide) w57
                                                    have n118 := zNe (k := 51) (y := 51) (by decide) w60
                                                    have n119 := zNe (k := 52) (y := 52) (by decide) w63
                                                    have n120 := zNe (k := 53) (y := 53) (by decide) w66
                                                    have n121 := zNe (k := 54) (y := 54) (by decide) w69
                                                    have n122 := zNe (k := 55) (y := 55) (by decide) w72
                                                    have n123 := zNe (k := 56) (y := 56) (by decide) w75
                                                    have n124 := zNe (k := 57) (y := 57) (by decide) w78
                                                    have n125 := zNe (k := 58) (y := 58) (by decide) w81
                                                    have n126 := zNe (k := 59) (y := 59) (by decide) w84
                                                    have n127 := zNe (k := 60) (y := 60) (by decide) w87
                                                    have n128 := zNe (k := 61) (y := 61) (by decide) w93
                                                    have n129 := zNe (k := 62) (y := 62) (by decide) w99
                                                    refine lv_tableOut (tgt := 197) hx hb dX7_joined_1 (by omega) (by decide) ?_
                                                    exact b197_ σ hf104 _ _ _ Z (lv_sub hl [1, 2] rfl)
def B_X7_worked_157 (a1 : Int32) (rec4_ : Int32 → Int32 → zg_S → Option (Int32 × zg_S)) (x2 : Int32) (x3 : Int32) (σ : zg_S) : Option (Int32 × zg_S) := rec4_ x2 (x3 + 1) σ
def B_X7_worked_123 (a1 : Int32) (rec4_ : Int32 → Int32 → zg_S → Option (Int32 × zg_S)) (x2 : Int32) (x3 : Int32) (y0 : Int32) (y1 : Int32) (σ : zg_S) : Option (Int32 × zg_S) := (if zin y1 100 = true then zlet (zg_up σ 15 (Int32.toNatClampNeg y1) y0) (fun (σ6 : zg_S) => B_X7_worked_157 a1 rec4_ x2 x3 σ6) else none)
def B_X7_worked_86 (a1 : Int32) (rec4_ : Int32 → Int32 → zg_S → Option (Int32 × zg_S)) (x2 : Int32) (x3 : Int32) (y0 : Int32) (y1 : Int32) (σ : zg_S) : Option (Int32 × zg_S) := (if zin y1 100 = true then zlet (zg_up σ 15 (Int32.toNatClampNeg y1) y0) (fun (σ15 : zg_S) => B_X7_worked_157 a1 rec4_ (x2 + 1) x3 σ15) else none)
def B_X7_worked_4 (a1 : Int32) (rec4_ : Int32 → Int32 → zg_S → Option (Int32 × zg_S)) (x2 : Int32) (x3 : Int32) (σ : zg_S) : Option (Int32 × zg_S) := zbd (f_X7_textAt a1 σ) (fun (r23 : Int32) (σ24 : zg_S) => (if zin (r23 + 2) 3047 = true then (if (σ24 1 (Int32.toNatClampNeg (r23 + 2))) ≤ x3 then some (σ24 15 0, σ24) else zbd (f_X7_textAt a1 σ24) (fun (r36 : Int32) (σ37 : zg_S) => (if zin ((r36 + 4) + (2 * x3)) 3047 = true then zlet (σ37 1 (Int32.toNatClampNeg ((r36 + 4) + (2 * x3)))) (fun (y46 : Int32) => zbd (f_X7_textAt a1 σ37) (fun (r51 : Int32) (σ52 : zg_S) => (if zin (((r51 + 4) + (2 * x3)) + 1) 3047 = true then zlet (σ52 1 (Int32.toNatClampNeg (((r51 + 4) + (2 * x3)) + 1))) (fun (y61 : Int32) => (if y46 = 2 then (if y61 = 33 then (if zin (x2 - 1) 100 = true then (if (σ52 15 (Int32.toNatClampNeg (x2 - 1))) = 0 then B_X7_worked_123 a1 rec4_ x2 x3 1 (x2 - 1) σ52 else B_X7_worked_123 a1 rec4_ x2 x3 0 (x2 - 1) σ52) else none) else (if zin ((x2 + (-1)) - 1) 100 = true then (if zin (x2 + (-1)) 100 = true then zbd (f_X7_joined y61 (σ52 15 (Int32.toNatClampNeg ((x2 + (-1)) - 1))) (σ52 15 (Int32.toNatClampNeg (x2 + (-1)))) σ52) (fun (r78 : Int32) (σ79 : zg_S) => zlet (zg_up σ79 15 (Int32.toNatClampNeg ((x2 + (-1)) - 1)) r78) (fun (σ85 : zg_S) => B_X7_worked_157 a1 rec4_ (x2 + (-1)) x3 σ85)) else none) else none)) else (if y46 = 0 then B_X7_worked_86 a1 rec4_ x2 x3 y61 x2 σ52 else (if zin y61 128 = true then B_X7_worked_86 a1 rec4_ x2 x3 (σ52 14 (Int32.toNatClampNeg y61)) x2 σ52 else none)))) else none))) else none))) else none))
def L_X7_worked_4 (a1 : Int32) : Nat → Int32 → Int32 → zg_S → Option (Int32 × zg_S) := zfix (fun _ _ _ => none) (B_X7_worked_4 a1)
def f_X7_worked (a1 : Int32) (σ : zg_S) : Option (Int32 × zg_S) := L_X7_worked_4 a1 zfu 0 0 σ
set_option maxHeartbeats 4000000 in
set_option maxRecDepth 100000 in
theorem c_X7_worked (l : Launch) (D : va_G) (V : zz_V) (ad : Nat → Nat) (cA : Nat → ClassId) (a1 : Int32)  (σ : zg_S) (r0 : Int32) (σf : zg_S) (hf : f_X7_worked a1 σ = some (r0, σf)) : zM_I l yX7_worked wsX7_worked 1 22 D V ML ad cA [.ref (ad 0), .int a1] σ r0 σf := by
  intro sz
  refine Met.ofW (cc := cX7_worked) (maxL := 6) (ret := (some .int)) (by decide) rfl ?_
  intro p e s m args below meth c s₁ B hml hv
  obtain ⟨rfl, hC⟩ := hv
  have hx := B.exec
  have hb := B.bytes
  have hr := B.returns
  have hts := atoms_spec (ws := wsX7_worked) B.pre
  have hown : s.vm.findClass RX7 = some m.cls := findClass_of_methodNamed B.named
  have hlk := B.notSynchronized
  have X : CallFix p m c cX7_worked 6 s _ wsX7_worked RX7 := ⟨hx, hb, hml, hown, hts⟩
  have Z := zz_enter hC
  generalize va_A (zg_W ML ad cA σ) sz = A at Z ⊢
  have hl := lv_entry ([.ref (ad 0), .int a1]) (n := 6) (Nat.le_of_ble_eq_true rfl)
  rw [lg_entry_eq]
  generalize (lg_sl ([.ref (ad 0), .int a1]) ++ List.replicate (6 - (lg_sl ([.ref (ad 0), .int a1])).length) Slot.unset).toArray = ls at hl ⊢
  have hl : lv_has ls 6 [(0, .ref (ad 0)), (1, .int a1)] := hl
  unfold f_X7_worked at hf
  have b4_ : ∀ (k4_ : Nat) (x2 : Int32) (x3 : Int32) (σ : zg_S), L_X7_worked_4 a1 k4_ x2 x3 σ = some (r0, σf) → ∀ (H : Heap) (locs : List Loc) (ls : Array Slot), zz_S D V A s (zg_W ML ad cA σ) (zg_T ML cA) H locs → lv_has ls 6 [(0, .ref (ad 0)), (1, .int a1), (2, .int x2), (3, .int x3)] → W p l e (headSpec wsX7_worked { frames := 1, cells := 0, slots := 0, locals := 22 }).room s m (List.toArray [.ref (ad 0), .int a1]) below meth c H locs 0 0 (MQ below (va_Qi (fun r (_ : Unit) => r = r0) (fun _ t => zz_B D A (zg_W ML ad cA σf) (zg_T ML cA) t) A) (List.toArray [.ref (ad 0), .int a1]) s 0 0 A) (F0 m 4 ls []) := by
    intro k4_
    induction k4_ with
    | zero =>
        intro x2 x3 σ hf4_ H4_ locs4_ ls4_ Z4_ hl4_
        exact zNone hf4_
    | succ k4_ ih4_ =>
        intro x2 x3 σ hf4_ H4_ locs4_ ls4_ Z4_ hl4_
        replace hf4_ : B_X7_worked_4 a1 (L_X7_worked_4 a1 k4_) x2 x3 σ = some (r0, σf) := hf4_
        unfold B_X7_worked_4 at hf4_
        have b157_ : ∀ (x2 : Int32) (x3 : Int32) (σ : zg_S), B_X7_worked_157 a1 (L_X7_worked_4 a1 k4_) x2 x3 σ = some (r0, σf) → ∀ (H : Heap) (locs : List Loc) (ls : Array Slot), zz_S D V A s (zg_W ML ad cA σ) (zg_T ML cA) H locs → lv_has ls 6 [(0, .ref (ad 0)), (1, .int a1), (2, .int x2), (3, .int x3)] → W p l e (headSpec wsX7_worked { frames := 1, cells := 0, slots := 0, locals := 22 }).room s m (List.toArray [.ref (ad 0), .int a1]) below meth c H locs 0 0 (MQ below (va_Qi (fun r (_ : Unit) => r = r0) (fun _ t => zz_B D A (zg_W ML ad cA σf) (zg_T ML cA) t) A) (List.toArray [.ref (ad 0), .int a1]) s 0 0 A) (F0 m 157 ls []) := by
          intro x2 x3 σ hf157_ H157_ locs157_ ls157_ Z157_ hl157_
          unfold B_X7_worked_157 at hf157_
          refine lv_iinc (v := (x3 + 1)) (lv' := [(3, .int (x3 + 1)), (0, .ref (ad 0)), (1, .int a1), (2, .int x2)]) hx hb dX7_worked_157 hl157_ (k := 3) rfl rfl (by decide) rfl (fun ls2 hl1 => ?_)
          clear hl157_
          refine lv_goto (tgt := 4) hx hb dX7_worked_160 (by decide) ?_
          exact ih4_ x2 (x3 + 1) σ hf157_ _ _ _ Z157_ (lv_sub hl1 [1, 2, 3, 0] rfl)
        have b123_ : ∀ (x2 : Int32) (x3 : Int32) (y0 : Int32) (y1 : Int32) (σ : zg_S), B_X7_worked_123 a1 (L_X7_worked_4 a1 k4_) x2 x3 y0 y1 σ = some (r0, σf) → ∀ (H : Heap) (locs : List Loc) (ls : Array Slot), zz_S D V A s (zg_W ML ad cA σ) (zg_T ML cA) H locs → lv_has ls 6 [(0, .ref (ad 0)), (1, .int a1), (2, .int x2), (3, .int x3)] → W p l e (headSpec wsX7_worked { frames := 1, cells := 0, slots := 0, locals := 22 }).room s m (List.toArray [.ref (ad 0), .int a1]) below meth c H locs 0 0 (MQ below (va_Qi (fun r (_ : Unit) => r = r0) (fun _ t => zz_B D A (zg_W ML ad cA σf) (zg_T ML cA) t) A) (List.toArray [.ref (ad 0), .int a1]) s 0 0 A) (F0 m 123 ls [.int y0, .int y1, .ref (ad 15)]) := by
          intro x2 x3 y0 y1 σ hf123_ H123_ locs123_ ls123_ Z123_ hl123_
          unfold B_X7_worked_123 at hf123_
          obtain ⟨⟨i3, j4⟩, hf5⟩ := zG hf123_
          clear hf123_
          obtain ⟨σ6, es7, hf8⟩ := zLet hf5
          clear hf5
          refine zy_ist (σ' := σ6) X Z123_ mL_ok mk_15 ml_15 i3 es7 dX7_worked_123 (fun H9 lo10 Z11 => ?_)
          clear Z123_ es7
          refine lv_goto (tgt := 157) hx hb dX7_worked_124 (by decide) ?_
          exact b157_ x2 x3 σ6 hf8 _ _ _ Z11 (lv_sub hl123_ [0, 1, 2, 3] rfl)
        have b86_ : ∀ (x2 : Int32) (x3 : Int32) (y0 : Int32) (y1 : Int32) (σ : zg_S), B_X7_worked_86 a1 (L_X7_worked_4 a1 k4_) x2 x3 y0 y1 σ = some (r0, σf) → ∀ (H : Heap) (locs : List Loc) (ls : Array Slot), zz_S D V A s (zg_W ML ad cA σ) (zg_T ML cA) H locs → lv_has ls 6 [(0, .ref (ad 0)), (1, .int a1), (2, .int x2), (3, .int x3)] → W p l e (headSpec wsX7_worked { frames := 1, cells := 0, slots := 0, locals := 22 }).room s m (List.toArray [.ref (ad 0), .int a1]) below meth c H locs 0 0 (MQ below (va_Qi (fun r (_ : Unit) => r = r0) (fun _ t => zz_B D A (zg_W ML ad cA σf) (zg_T ML cA) t) A) (List.toArray [.ref (ad 0), .int a1]) s 0 0 A) (F0 m 86 ls [.int y0, .int y1, .ref (ad 15)]) := by
          intro x2 x3 y0 y1 σ hf86_ H86_ locs86_ ls86_ Z86_ hl86_
          unfold B_X7_worked_86 at hf86_
          obtain ⟨⟨i12, j13⟩, hf14⟩ := zG hf86_
          clear hf86_
          obtain ⟨σ15, es16, hf17⟩ := zLet hf14
          clear hf14
          refine zy_ist (σ' := σ15) X Z86_ mL_ok mk_15 ml_15 i12 es16 dX7_worked_86 (fun H18 lo19 Z20 => ?_)
          clear Z86_ es16
          refine lv_iinc (v := (x2 + 1)) (lv' := [(2, .int (x2 + 1)), (0, .ref (ad 0)), (1, .int a1), (3, .int x3)]) hx hb dX7_worked_87 hl86_ (k := 2) rfl rfl (by decide) rfl (fun ls22 hl21 => ?_)
          clear hl86_
          refine lv_goto (tgt := 157) hx hb dX7_worked_90 (by decide) ?_
          exact b157_ (x2 + 1) x3 σ15 hf17 _ _ _ Z20 (lv_sub hl21 [1, 2, 0, 3] rfl)
        refine lv_iload_n hx hb dX7_worked_4 rfl (lv_at hl4_ 3 rfl) ?_
        refine lv_aload_n hx hb dX7_worked_5 rfl (lv_at hl4_ 0 rfl) ?_
        refine zy_get (v := .ref (ad 1)) X Z4_ mL_ok mk_0 rfl rfl (fun w h => List.mem_cons_of_mem _ (List.mem_append_right _ h)) 0 rfl (zz_m 1 rfl) rfl dX7_worked_6 ?_
        refine lv_aload_n hx hb dX7_worked_9 rfl (lv_at hl4_ 0 rfl) ?_
        refine lv_iload_n hx hb dX7_worked_10 rfl (lv_at hl4_ 1 rfl) ?_
        obtain ⟨r23, σ24, hc25, hf26⟩ := zBd hf4_
        clear hf4_
        refine zy_ci (r0 := r23) (WS1 := zg_W ML ad cA σ24) (TYS1 := zg_T ML cA) Z4_ (va_runV (As := [.int a1]) (rest := [.ref (ad 1), .int x3]) X (c_X7_textAt l D V ad cA a1 σ r23 σ24 hc25 H4_.size) (cwV 1 hts gX7_worked_X7_textAt rfl rfl rfl ⟨rfl, zh_X7_textAt⟩ ⟨Nat.le_of_ble_eq_true rfl, Nat.le_of_ble_eq_true rfl⟩) (zy_pV (ci := 7) Z4_ mL_ok mk_0 rfl rfl) rfl rfl hl4_.1 rfl (lv_room (Nat.le_of_ble_eq_true rfl)) dX7_worked_11 ⟨Nat.le_of_ble_eq_true rfl, Nat.le_of_ble_eq_true rfl⟩) (fun H27 lo28 Z29 => ?_)
        clear Z4_ hc25
        refine lv_iconst (v := 2) hx hb dX7_worked_14 (by decide) ?_
        refine lv_iadd hx hb dX7_worked_15 ?_
        obtain ⟨⟨i30, j31⟩, hf32⟩ := zG hf26
        clear hf26
        refine zy_ild X Z29 mL_ok mk_1 ml_1 i30 dX7_worked_16 ?_
        refine lv_icmp_ge (tgt := 163) hx hb dX7_worked_17 (by decide) (fun b33 => ?_) (fun b33 => ?_)
        · have hf34 := zYes hf32 b33
          clear hf32
          refine lv_aload_n hx hb dX7_worked_163 rfl (lv_at hl4_ 0 rfl) ?_
          refine zy_get (v := .ref (ad 15)) X Z29 mL_ok mk_0 rfl rfl (fun w h => List.mem_cons_of_mem _ (List.mem_append_right _ h)) 26 rfl (zz_m 2 rfl) rfl dX7_worked_164 ?_
          refine lv_iconst (v := 0) hx hb dX7_worked_167 (by decide) ?_
          refine zy_ild X Z29 mL_ok mk_15 ml_15 (zz_in 0 100 rfl) dX7_worked_168 ?_
          refine zz_v (v := σ24 15 0) rfl ?_
          exact zy_iret X hr hlk Z29 (zEnd hf34) dX7_worked_169
        · have hf35 := zNot hf32 b33
          clear hf32
          refine lv_aload_n hx hb dX7_worked_20 rfl (lv_at hl4_ 0 rfl) ?_
          refine zy_get (v := .ref (ad 1)) X Z29 mL_ok mk_0 rfl rfl (fun w h => List.mem_cons_of_mem _ (List.mem_append_right _ h)) 0 rfl (zz_m 1 rfl) rfl dX7_worked_21 ?_
          refine lv_aload_n hx hb dX7_worked_24 rfl (lv_at hl4_ 0 rfl) ?_
          refine lv_iload_n hx hb dX7_worked_25 rfl (lv_at hl4_ 1 rfl) ?_
          obtain ⟨r36, σ37, hc38, hf39⟩ := zBd hf35
          clear hf35
          refine zy_ci (r0 := r36) (WS1 := zg_W ML ad cA σ37) (TYS1 := zg_T ML cA) Z29 (va_runV (As := [.int a1]) (rest := [.ref (ad 1)]) X (c_X7_textAt l D V ad cA a1 σ24 r36 σ37 hc38 H27.size) (cwV 1 hts gX7_worked_X7_textAt rfl rfl rfl ⟨rfl, zh_X7_textAt⟩ ⟨Nat.le_of_ble_eq_true rfl, Nat.le_of_ble_eq_true rfl⟩) (zy_pV (ci := 7) Z29 mL_ok mk_0 rfl rfl) rfl rfl hl4_.1 rfl (lv_room (Nat.le_of_ble_eq_true rfl)) dX7_worked_26 ⟨Nat.le_of_ble_eq_true rfl, Nat.le_of_ble_eq_true rfl⟩) (fun H40 lo41 Z42 => ?_)
          clear Z29 hc38
          refine lv_iconst (v := 4) hx hb dX7_worked_29 (by decide) ?_
          refine lv_iadd hx hb dX7_worked_30 ?_
          refine lv_iconst (v := 2) hx hb dX7_worked_31 (by decide) ?_
          refine lv_iload_n hx hb dX7_worked_32 rfl (lv_at hl4_ 3 rfl) ?_
          refine lv_imul hx hb dX7_worked_33 ?_
          refine lv_iadd hx hb dX7_worked_34 ?_
          obtain ⟨⟨i43, j44⟩, hf45⟩ := zG hf39
          clear hf39
          refine zy_ild X Z42 mL_ok mk_1 ml_1 i43 dX7_worked_35 ?_
          obtain ⟨y46, ey47, hf48⟩ := zLet hf45
          clear hf45
          refine zz_v (v := y46) ey47.symm ?_
          clear ey47
          refine lv_istore (lv' := [(4, .int y46), (0, .ref (ad 0)), (1, .int a1), (2, .int x2), (3, .int x3)]) hx hb dX7_worked_36 hl4_ (by decide) rfl (fun ls50 hl49 => ?_)
          clear hl4_
          refine lv_aload_n hx hb dX7_worked_38 rfl (lv_at hl49 1 rfl) ?_
          refine zy_get (v := .ref (ad 1)) X Z42 mL_ok mk_0 rfl rfl (fun w h => List.mem_cons_of_mem _ (List.mem_append_right _ h)) 0 rfl (zz_m 1 rfl) rfl dX7_worked_39 ?_
          refine lv_aload_n hx hb dX7_worked_42 rfl (lv_at hl49 1 rfl) ?_
          refine lv_iload_n hx hb dX7_worked_43 rfl (lv_at hl49 2 rfl) ?_
          obtain ⟨r51, σ52, hc53, hf54⟩ := zBd hf48
          clear hf48
          refine zy_ci (r0 := r51) (WS1 := zg_W ML ad cA σ52) (TYS1 := zg_T ML cA) Z42 (va_runV (As := [.int a1]) (rest := [.ref (ad 1)]) X (c_X7_textAt l D V ad cA a1 σ37 r51 σ52 hc53 H40.size) (cwV 1 hts gX7_worked_X7_textAt rfl rfl rfl ⟨rfl, zh_X7_textAt⟩ ⟨Nat.le_of_ble_eq_true rfl, Nat.le_of_ble_eq_true rfl⟩) (zy_pV (ci := 7) Z42 mL_ok mk_0 rfl rfl) rfl rfl hl49.1 rfl (lv_room (Nat.le_of_ble_eq_true rfl)) dX7_worked_44 ⟨Nat.le_of_ble_eq_true rfl, Nat.le_of_ble_eq_true rfl⟩) (fun H55 lo56 Z57 => ?_)
          clear Z42 hc53
          refine lv_iconst (v := 4) hx hb dX7_worked_47 (by decide) ?_
          refine lv_iadd hx hb dX7_worked_48 ?_
          refine lv_iconst (v := 2) hx hb dX7_worked_49 (by decide) ?_
          refine lv_iload_n hx hb dX7_worked_50 rfl (lv_at hl49 4 rfl) ?_
          refine lv_imul hx hb dX7_worked_51 ?_
          refine lv_iadd hx hb dX7_worked_52 ?_
          refine lv_iconst (v := 1) hx hb dX7_worked_53 (by decide) ?_
          refine lv_iadd hx hb dX7_worked_54 ?_
          obtain ⟨⟨i58, j59⟩, hf60⟩ := zG hf54
          clear hf54
          refine zy_ild X Z57 mL_ok mk_1 ml_1 i58 dX7_worked_55 ?_
          obtain ⟨y61, ey62, hf63⟩ := zLet hf60
          clear hf60
          refine zz_v (v := y61) ey62.symm ?_
          clear ey62
          refine lv_istore (lv' := [(5, .int y61), (4, .int y46), (0, .ref (ad 0)), (1, .int a1), (2, .int x2), (3, .int x3)]) hx hb dX7_worked_56 hl49 (by decide) rfl (fun ls65 hl64 => ?_)
          clear hl49
          refine lv_iload hx hb dX7_worked_58 (lv_at hl64 1 rfl) ?_
          refine lv_iconst (v := 2) hx hb dX7_worked_60 (by decide) ?_
          refine lv_icmp_eq (tgt := 93) hx hb dX7_worked_61 (by decide) (fun b66 => ?_) (fun b66 => ?_)
          · have hf67 := zYes hf63 b66
            clear hf63
            refine lv_iload hx hb dX7_worked_93 (lv_at hl64 0 rfl) ?_
            refine lv_bipush (v := 33) hx hb dX7_worked_95 (by decide) ?_
            refine lv_icmp_ne (tgt := 127) hx hb dX7_worked_97 (by decide) (fun b68 => ?_) (fun b68 => ?_)
            · have hf69 := zNot hf67 b68
              clear hf67
              refine lv_iinc (v := (x2 + (-1))) (lv' := [(2, .int (x2 + (-1))), (5, .int y61), (4, .int y46), (0, .ref (ad 0)), (1, .int a1), (3, .int x3)]) hx hb dX7_worked_127 hl64 (k := 4) rfl rfl (by decide) rfl (fun ls71 hl70 => ?_)
              clear hl64
              refine lv_aload_n hx hb dX7_worked_130 rfl (lv_at hl70 3 rfl) ?_
              refine zy_get (v := .ref (ad 15)) X Z57 mL_ok mk_0 rfl rfl (fun w h => List.mem_cons_of_mem _ (List.mem_append_right _ h)) 26 rfl (zz_m 2 rfl) rfl dX7_worked_131 ?_
              refine lv_iload_n hx hb dX7_worked_134 rfl (lv_at hl70 0 rfl) ?_
              refine lv_iconst (v := 1) hx hb dX7_worked_135 (by decide) ?_
              refine lv_isub hx hb dX7_worked_136 ?_
              refine lv_iload hx hb dX7_worked_137 (lv_at hl70 1 rfl) ?_
              refine lv_aload_n hx hb dX7_worked_139 rfl (lv_at hl70 3 rfl) ?_
              refine zy_get (v := .ref (ad 15)) X Z57 mL_ok mk_0 rfl rfl (fun w h => List.mem_cons_of_mem _ (List.mem_append_right _ h)) 26 rfl (zz_m 2 rfl) rfl dX7_worked_140 ?_
              refine lv_iload_n hx hb dX7_worked_143 rfl (lv_at hl70 0 rfl) ?_
              refine lv_iconst (v := 1) hx hb dX7_worked_144 (by decide) ?_
              refine lv_isub hx hb dX7_worked_145 ?_
              obtain ⟨⟨i72, j73⟩, hf74⟩ := zG hf69
              clear hf69
              refine zy_ild X Z57 mL_ok mk_15 ml_15 i72 dX7_worked_146 ?_
              refine lv_aload_n hx hb dX7_worked_147 rfl (lv_at hl70 3 rfl) ?_
              refine zy_get (v := .ref (ad 15)) X Z57 mL_ok mk_0 rfl rfl (fun w h => List.mem_cons_of_mem _ (List.mem_append_right _ h)) 26 rfl (zz_m 2 rfl) rfl dX7_worked_148 ?_
              refine lv_iload_n hx hb dX7_worked_151 rfl (lv_at hl70 0 rfl) ?_
              obtain ⟨⟨i75, j76⟩, hf77⟩ := zG hf74
              clear hf74
              refine zy_ild X Z57 mL_ok mk_15 ml_15 i75 dX7_worked_152 ?_
              obtain ⟨r78, σ79, hc80, hf81⟩ := zBd hf77
              clear hf77
              refine zy_ci (r0 := r78) (WS1 := zg_W ML ad cA σ79) (TYS1 := zg_T ML cA) Z57 (va_runS (As := [.int y61, .int (σ52 15 (Int32.toNatClampNeg ((x2 + (-1)) - 1))), .int (σ52 15 (Int32.toNatClampNeg (x2 + (-1))))]) (rest := [.int ((x2 + (-1)) - 1), .ref (ad 15)]) X (c_X7_joined l D V ad cA y61 (σ52 15 (Int32.toNatClampNeg ((x2 + (-1)) - 1))) (σ52 15 (Int32.toNatClampNeg (x2 + (-1)))) σ52 r78 σ79 hc80 H55.size) (va_cwS 3 hts gX7_worked_X7_joined rfl rfl rfl zh_X7_joined ⟨Nat.le_of_ble_eq_true rfl, Nat.le_of_ble_eq_true rfl⟩) (zz_pS Z57) rfl rfl hl70.1 rfl (lv_room (Nat.le_of_ble_eq_true rfl)) dX7_worked_153 ⟨Nat.le_of_ble_eq_true rfl, Nat.le_of_ble_eq_true rfl⟩) (fun H82 lo83 Z84 => ?_)
              clear Z57 hc80
              obtain ⟨σ85, es86, hf87⟩ := zLet hf81
              clear hf81
              refine zy_ist (σ' := σ85) X Z84 mL_ok mk_15 ml_15 i72 es86 dX7_worked_156 (fun H88 lo89 Z90 => ?_)
              clear Z84 es86
              exact b157_ (x2 + (-1)) x3 σ85 hf87 _ _ _ Z90 (lv_sub hl70 [3, 4, 0, 5] rfl)
            · have hf91 := zYes hf67 b68
              clear hf67
              refine lv_aload_n hx hb dX7_worked_100 rfl (lv_at hl64 2 rfl) ?_
              refine zy_get (v := .ref (ad 15)) X Z57 mL_ok mk_0 rfl rfl (fun w h => List.mem_cons_of_mem _ (List.mem_append_right _ h)) 26 rfl (zz_m 2 rfl) rfl dX7_worked_101 ?_
              refine lv_iload_n hx hb dX7_worked_104 rfl (lv_at hl64 4 rfl) ?_
              refine lv_iconst (v := 1) hx hb dX7_worked_105 (by decide) ?_
              refine lv_isub hx hb dX7_worked_106 ?_
              refine lv_aload_n hx hb dX7_worked_107 rfl (lv_at hl64 2 rfl) ?_
              refine zy_get (v := .ref (ad 15)) X Z57 mL_ok mk_0 rfl rfl (fun w h => List.mem_cons_of_mem _ (List.mem_append_right _ h)) 26 rfl (zz_m 2 rfl) rfl dX7_worked_108 ?_
              refine lv_iload_n hx hb dX7_worked_111 rfl (lv_at hl64 4 rfl) ?_
              refine lv_iconst (v := 1) hx hb dX7_worked_112 (by decide) ?_
              refine lv_isub hx hb dX7_worked_113 ?_
              obtain ⟨⟨i92, j93⟩, hf94⟩ := zG hf91
              clear hf91
              refine zy_ild X Z57 mL_ok mk_15 ml_15 i92 dX7_worked_114 ?_
              refine lv_if_ne (tgt := 122) hx hb dX7_worked_115 (by decide) (fun b95 => ?_) (fun b95 => ?_)
              · have hf96 := zNot hf94 b95
                clear hf94
                refine lv_iconst (v := 0) hx hb dX7_worked_122 (by decide) ?_
                exact b123_ x2 x3 0 (x2 - 1) σ52 hf96 _ _ _ Z57 (lv_sub hl64 [2, 3, 4, 5] rfl)
              · have hf97 := zYes hf94 b95
                clear hf94
                refine lv_iconst (v := 1) hx hb dX7_worked_118 (by decide) ?_
                refine lv_goto (tgt := 123) hx hb dX7_worked_119 (by decide) ?_
                exact b123_ x2 x3 1 (x2 - 1) σ52 hf97 _ _ _ Z57 (lv_sub hl64 [2, 3, 4, 5] rfl)
          · have hf98 := zNot hf63 b66
            clear hf63
            refine lv_aload_n hx hb dX7_worked_64 rfl (lv_at hl64 2 rfl) ?_
            refine zy_get (v := .ref (ad 15)) X Z57 mL_ok mk_0 rfl rfl (fun w h => List.mem_cons_of_mem _ (List.mem_append_right _ h)) 26 rfl (zz_m 2 rfl) rfl dX7_worked_65 ?_
            refine lv_iload_n hx hb dX7_worked_68 rfl (lv_at hl64 4 rfl) ?_
            refine lv_iload hx hb dX7_worked_69 (lv_at hl64 1 rfl) ?_
            refine lv_if_ne (tgt := 79) hx hb dX7_worked_71 (by decide) (fun b99 => ?_) (fun b99 => ?_)
            · have hf100 := zNot hf98 b99
              clear hf98
              refine lv_aload_n hx hb dX7_worked_79 rfl (lv_at hl64 2 rfl) ?_
              refine zy_get (v := .ref (ad 14)) X Z57 mL_ok mk_0 rfl rfl (fun w h => List.mem_cons_of_mem _ (List.mem_append_right _ h)) 25 rfl (zz_m 3 rfl) rfl dX7_worked_80 ?_
              refine lv_iload hx hb dX7_worked_83 (lv_at hl64 0 rfl) ?_
              obtain ⟨⟨i101, j102⟩, hf103⟩ := zG hf100
              clear hf100
              refine zy_ild X Z57 mL_ok mk_14 ml_14 i101 dX7_worked_85 ?_
              exact b86_ x2 x3 (σ52 14 (Int32.toNatClampNeg y61)) x2 σ52 hf103 _ _ _ Z57 (lv_sub hl64 [2, 3, 4, 5] rfl)
            · have hf104 := zYes hf98 b99
              clear hf98
              refine lv_iload hx hb dX7_worked_74 (lv_at hl64 0 rfl) ?_
              refine lv_goto (tgt := 86) hx hb dX7_worked_76 (by decide) ?_
              exact b86_ x2 x3 y61 x2 σ52 hf104 _ _ _ Z57 (lv_sub hl64 [2, 3, 4, 5] rfl)
  refine lv_iconst (v := 0) hx hb dX7_worked_0 (by decide) ?_
  refine lv_istore_n (lv' := [(2, .int 0), (0, .ref (ad 0)), (1, .int a1)]) hx hb dX7_worked_1 rfl hl (by decide) rfl (fun ls106 hl105 => ?_)
  clear hl
  refine lv_iconst (v := 0) hx hb dX7_worked_2 (by decide) ?_
  refine lv_istore_n (lv' := [(3, .int 0), (2, .int 0), (0, .ref (ad 0)), (1, .int a1)]) hx hb dX7_worked_3 rfl hl105 (by decide) rfl (fun ls108 hl107 => ?_)
  clear hl105
  exact b4_ zfu 0 0 σ hf _ _ _ Z (lv_sub hl107 [2, 3, 1, 0] rfl)
def f_X7_melts (a1 : Int32) (σ : zg_S) : Option (Int32 × zg_S) := zbd (f_X7_counts 0 σ) (fun (r1 : Int32) (σ2 : zg_S) => (if 0 ≤ r1 then zbd (f_X7_heat σ2) (fun (r12 : Int32) (σ13 : zg_S) => zlet (zg_up σ13 14 104 r12) (fun (σ19 : zg_S) => zbd (f_X7_of a1 2 σ19) (fun (r25 : Int32) (σ26 : zg_S) => zlet (zg_up σ26 14 103 r25) (fun (σ32 : zg_S) => zbd (f_X7_of a1 3 σ32) (fun (r38 : Int32) (σ39 : zg_S) => zlet (zg_up σ39 14 112 r38) (fun (σ45 : zg_S) => zbd (f_X7_worked r1 σ45) (fun (r51 : Int32) (σ52 : zg_S) => zbd (f_X7_of a1 2 σ52) (fun (r58 : Int32) (σ59 : zg_S) => zbd (f_X7_within r51 r58 σ59) (fun (r65 : Int32) (σ66 : zg_S) => some (r65, σ66)))))))))) else zbd (f_X7_heat σ2) (fun (r73 : Int32) (σ74 : zg_S) => some (r73 / 5, σ74))))
set_option maxHeartbeats 4000000 in
set_option maxRecDepth 100000 in
theorem c_X7_melts (l : Launch) (D : va_G) (V : zz_V) (ad : Nat → Nat) (cA : Nat → ClassId) (a1 : Int32)  (σ : zg_S) (r0 : Int32) (σf : zg_S) (hf : f_X7_melts a1 σ = some (r0, σf)) : zM_I l yX7_melts wsX7_melts 2 47 D V ML ad cA [.ref (ad 0), .int a1] σ r0 σf := by
  intro sz
  refine Met.ofW (cc := cX7_melts) (maxL := 3) (ret := (some .int)) (by decide) rfl ?_
  intro p e s m args below meth c s₁ B hml hv
  obtain ⟨rfl, hC⟩ := hv
  have hx := B.exec
  have hb := B.bytes
  have hr := B.returns
  have hts := atoms_spec (ws := wsX7_melts) B.pre
  have hown : s.vm.findClass RX7 = some m.cls := findClass_of_methodNamed B.named
  have hlk := B.notSynchronized
  have X : CallFix p m c cX7_melts 3 s _ wsX7_melts RX7 := ⟨hx, hb, hml, hown, hts⟩
  have Z := zz_enter hC
  generalize va_A (zg_W ML ad cA σ) sz = A at Z ⊢
  have hl := lv_entry ([.ref (ad 0), .int a1]) (n := 3) (Nat.le_of_ble_eq_true rfl)
  rw [lg_entry_eq]
  generalize (lg_sl ([.ref (ad 0), .int a1]) ++ List.replicate (3 - (lg_sl ([.ref (ad 0), .int a1])).length) Slot.unset).toArray = ls at hl ⊢
  have hl : lv_has ls 3 [(0, .ref (ad 0)), (1, .int a1)] := hl
  unfold f_X7_melts at hf
  refine lv_aload_n hx hb dX7_melts_0 rfl (lv_at hl 0 rfl) ?_
  refine lv_iconst (v := 0) hx hb dX7_melts_1 (by decide) ?_
  obtain ⟨r1, σ2, hc3, hf4⟩ := zBd hf
  clear hf
  refine zy_ci (r0 := r1) (WS1 := zg_W ML ad cA σ2) (TYS1 := zg_T ML cA) Z (va_runV (As := [.int 0]) (rest := []) X (c_X7_counts l D V ad cA 0 σ r1 σ2 hc3 s.heap.size) (cwV 1 hts gX7_melts_X7_counts rfl rfl rfl ⟨rfl, zh_X7_counts⟩ ⟨Nat.le_of_ble_eq_true rfl, Nat.le_of_ble_eq_true rfl⟩) (zy_pV (ci := 7) Z mL_ok mk_0 rfl rfl) rfl rfl hl.1 rfl (lv_room (Nat.le_of_ble_eq_true rfl)) dX7_melts_2 ⟨Nat.le_of_ble_eq_true rfl, Nat.le_of_ble_eq_true rfl⟩) (fun H5 lo6 Z7 => ?_)
  clear Z hc3
  refine lv_istore_n (lv' := [(2, .int r1), (0, .ref (ad 0)), (1, .int a1)]) hx hb dX7_melts_5 rfl hl (by decide) rfl (fun ls9 hl8 => ?_)
  clear hl
  refine lv_iload_n hx hb dX7_melts_6 rfl (lv_at hl8 0 rfl) ?_
  refine lv_if_ge (tgt := 17) hx hb dX7_melts_7 (by decide) (fun b10 => ?_) (fun b10 => ?_)
  · have hf11 := zYes hf4 b10
    clear hf4
    refine lv_aload_n hx hb dX7_melts_17 rfl (lv_at hl8 1 rfl) ?_
    refine zy_get (v := .ref (ad 14)) X Z7 mL_ok mk_0 rfl rfl (fun w h => List.mem_cons_of_mem _ (List.mem_append_right _ h)) 25 rfl (zz_m 1 rfl) rfl dX7_melts_18 ?_
    refine lv_bipush (v := 104) hx hb dX7_melts_21 (by decide) ?_
    refine lv_aload_n hx hb dX7_melts_23 rfl (lv_at hl8 1 rfl) ?_
    obtain ⟨r12, σ13, hc14, hf15⟩ := zBd hf11
    clear hf11
    refine zy_ci (r0 := r12) (WS1 := zg_W ML ad cA σ13) (TYS1 := zg_T ML cA) Z7 (va_runV (As := []) (rest := [.int 104, .ref (ad 14)]) X (c_X7_heat l D V ad cA  σ2 r12 σ13 hc14 H5.size) (cwV 0 hts gX7_melts_X7_heat rfl rfl rfl ⟨rfl, zh_X7_heat⟩ ⟨Nat.le_of_ble_eq_true rfl, Nat.le_of_ble_eq_true rfl⟩) (zy_pV (ci := 7) Z7 mL_ok mk_0 rfl rfl) rfl rfl hl8.1 rfl (lv_room (Nat.le_of_ble_eq_true rfl)) dX7_melts_24 ⟨Nat.le_of_ble_eq_true rfl, Nat.le_of_ble_eq_true rfl⟩) (fun H16 lo17 Z18 => ?_)
    clear Z7 hc14
    obtain ⟨σ19, es20, hf21⟩ := zLet hf15
    clear hf15
    refine zy_ist (σ' := σ19) X Z18 mL_ok mk_14 ml_14 (zz_in 104 128 rfl) es20 dX7_melts_27 (fun H22 lo23 Z24 => ?_)
    clear Z18 es20
    refine lv_aload_n hx hb dX7_melts_28 rfl (lv_at hl8 1 rfl) ?_
    refine zy_get (v := .ref (ad 14)) X Z24 mL_ok mk_0 rfl rfl (fun w h => List.mem_cons_of_mem _ (List.mem_append_right _ h)) 25 rfl (zz_m 1 rfl) rfl dX7_melts_29 ?_
    refine lv_bipush (v := 103) hx hb dX7_melts_32 (by decide) ?_
    refine lv_aload_n hx hb dX7_melts_34 rfl (lv_at hl8 1 rfl) ?_
    refine lv_iload_n hx hb dX7_melts_35 rfl (lv_at hl8 2 rfl) ?_
    refine lv_iconst (v := 2) hx hb dX7_melts_36 (by decide) ?_
    obtain ⟨r25, σ26, hc27, hf28⟩ := zBd hf21
    clear hf21
    refine zy_ci (r0 := r25) (WS1 := zg_W ML ad cA σ26) (TYS1 := zg_T ML cA) Z24 (va_runV (As := [.int a1, .int 2]) (rest := [.int 103, .ref (ad 14)]) X (c_X7_of l D V ad cA a1 2 σ19 r25 σ26 hc27 H22.size) (cwV 2 hts gX7_melts_X7_of rfl rfl rfl ⟨rfl, zh_X7_of⟩ ⟨Nat.le_of_ble_eq_true rfl, Nat.le_of_ble_eq_true rfl⟩) (zy_pV (ci := 7) Z24 mL_ok mk_0 rfl rfl) rfl rfl hl8.1 rfl (lv_room (Nat.le_of_ble_eq_true rfl)) dX7_melts_37 ⟨Nat.le_of_ble_eq_true rfl, Nat.le_of_ble_eq_true rfl⟩) (fun H29 lo30 Z31 => ?_)
    clear Z24 hc27
    obtain ⟨σ32, es33, hf34⟩ := zLet hf28
    clear hf28
    refine zy_ist (σ' := σ32) X Z31 mL_ok mk_14 ml_14 (zz_in 103 128 rfl) es33 dX7_melts_40 (fun H35 lo36 Z37 => ?_)
    clear Z31 es33
    refine lv_aload_n hx hb dX7_melts_41 rfl (lv_at hl8 1 rfl) ?_
    refine zy_get (v := .ref (ad 14)) X Z37 mL_ok mk_0 rfl rfl (fun w h => List.mem_cons_of_mem _ (List.mem_append_right _ h)) 25 rfl (zz_m 1 rfl) rfl dX7_melts_42 ?_
    refine lv_bipush (v := 112) hx hb dX7_melts_45 (by decide) ?_
    refine lv_aload_n hx hb dX7_melts_47 rfl (lv_at hl8 1 rfl) ?_
    refine lv_iload_n hx hb dX7_melts_48 rfl (lv_at hl8 2 rfl) ?_
    refine lv_iconst (v := 3) hx hb dX7_melts_49 (by decide) ?_
    obtain ⟨r38, σ39, hc40, hf41⟩ := zBd hf34
    clear hf34
    refine zy_ci (r0 := r38) (WS1 := zg_W ML ad cA σ39) (TYS1 := zg_T ML cA) Z37 (va_runV (As := [.int a1, .int 3]) (rest := [.int 112, .ref (ad 14)]) X (c_X7_of l D V ad cA a1 3 σ32 r38 σ39 hc40 H35.size) (cwV 2 hts gX7_melts_X7_of rfl rfl rfl ⟨rfl, zh_X7_of⟩ ⟨Nat.le_of_ble_eq_true rfl, Nat.le_of_ble_eq_true rfl⟩) (zy_pV (ci := 7) Z37 mL_ok mk_0 rfl rfl) rfl rfl hl8.1 rfl (lv_room (Nat.le_of_ble_eq_true rfl)) dX7_melts_50 ⟨Nat.le_of_ble_eq_true rfl, Nat.le_of_ble_eq_true rfl⟩) (fun H42 lo43 Z44 => ?_)
    clear Z37 hc40
    obtain ⟨σ45, es46, hf47⟩ := zLet hf41
    clear hf41
    refine zy_ist (σ' := σ45) X Z44 mL_ok mk_14 ml_14 (zz_in 112 128 rfl) es46 dX7_melts_53 (fun H48 lo49 Z50 => ?_)
    clear Z44 es46
    refine lv_aload_n hx hb dX7_melts_54 rfl (lv_at hl8 1 rfl) ?_
    refine lv_iload_n hx hb dX7_melts_55 rfl (lv_at hl8 0 rfl) ?_
    obtain ⟨r51, σ52, hc53, hf54⟩ := zBd hf47
    clear hf47
    refine zy_ci (r0 := r51) (WS1 := zg_W ML ad cA σ52) (TYS1 := zg_T ML cA) Z50 (va_runV (As := [.int r1]) (rest := []) X (c_X7_worked l D V ad cA r1 σ45 r51 σ52 hc53 H48.size) (cwV 1 hts gX7_melts_X7_worked rfl rfl rfl ⟨rfl, zh_X7_worked⟩ ⟨Nat.le_of_ble_eq_true rfl, Nat.le_of_ble_eq_true rfl⟩) (zy_pV (ci := 7) Z50 mL_ok mk_0 rfl rfl) rfl rfl hl8.1 rfl (lv_room (Nat.le_of_ble_eq_true rfl)) dX7_melts_56 ⟨Nat.le_of_ble_eq_true rfl, Nat.le_of_ble_eq_true rfl⟩) (fun H55 lo56 Z57 => ?_)
    clear Z50 hc53
    refine lv_aload_n hx hb dX7_melts_59 rfl (lv_at hl8 1 rfl) ?_
    refine lv_iload_n hx hb dX7_melts_60 rfl (lv_at hl8 2 rfl) ?_
    refine lv_iconst (v := 2) hx hb dX7_melts_61 (by decide) ?_
    obtain ⟨r58, σ59, hc60, hf61⟩ := zBd hf54
    clear hf54
    refine zy_ci (r0 := r58) (WS1 := zg_W ML ad cA σ59) (TYS1 := zg_T ML cA) Z57 (va_runV (As := [.int a1, .int 2]) (rest := [.int r51]) X (c_X7_of l D V ad cA a1 2 σ52 r58 σ59 hc60 H55.size) (cwV 2 hts gX7_melts_X7_of rfl rfl rfl ⟨rfl, zh_X7_of⟩ ⟨Nat.le_of_ble_eq_true rfl, Nat.le_of_ble_eq_true rfl⟩) (zy_pV (ci := 7) Z57 mL_ok mk_0 rfl rfl) rfl rfl hl8.1 rfl (lv_room (Nat.le_of_ble_eq_true rfl)) dX7_melts_62 ⟨Nat.le_of_ble_eq_true rfl, Nat.le_of_ble_eq_true rfl⟩) (fun H62 lo63 Z64 => ?_)
    clear Z57 hc60
    obtain ⟨r65, σ66, hc67, hf68⟩ := zBd hf61
    clear hf61
    refine zy_ci (r0 := r65) (WS1 := zg_W ML ad cA σ66) (TYS1 := zg_T ML cA) Z64 (va_runS (As := [.int r51, .int r58]) (rest := []) X (c_X7_within l D V ad cA r51 r58 σ59 r65 σ66 hc67 H62.size) (va_cwS 2 hts gX7_melts_X7_within rfl rfl rfl zh_X7_within ⟨Nat.le_of_ble_eq_true rfl, Nat.le_of_ble_eq_true rfl⟩) (zz_pS Z64) rfl rfl hl8.1 rfl (lv_room (Nat.le_of_ble_eq_true rfl)) dX7_melts_65 ⟨Nat.le_of_ble_eq_true rfl, Nat.le_of_ble_eq_true rfl⟩) (fun H69 lo70 Z71 => ?_)
    clear Z64 hc67
    exact zy_iret X hr hlk Z71 (zEnd hf68) dX7_melts_68
  · have hf72 := zNot hf4 b10
    clear hf4
    refine lv_aload_n hx hb dX7_melts_10 rfl (lv_at hl8 1 rfl) ?_
    obtain ⟨r73, σ74, hc75, hf76⟩ := zBd hf72
    clear hf72
    refine zy_ci (r0 := r73) (WS1 := zg_W ML ad cA σ74) (TYS1 := zg_T ML cA) Z7 (va_runV (As := []) (rest := []) X (c_X7_heat l D V ad cA  σ2 r73 σ74 hc75 H5.size) (cwV 0 hts gX7_melts_X7_heat rfl rfl rfl ⟨rfl, zh_X7_heat⟩ ⟨Nat.le_of_ble_eq_true rfl, Nat.le_of_ble_eq_true rfl⟩) (zy_pV (ci := 7) Z7 mL_ok mk_0 rfl rfl) rfl rfl hl8.1 rfl (lv_room (Nat.le_of_ble_eq_true rfl)) dX7_melts_11 ⟨Nat.le_of_ble_eq_true rfl, Nat.le_of_ble_eq_true rfl⟩) (fun H77 lo78 Z79 => ?_)
    clear Z7 hc75
    refine lv_iconst (v := 5) hx hb dX7_melts_14 (by decide) ?_
    refine lv_idiv hx hb dX7_melts_15 (by decide) ?_
    exact zy_iret X hr hlk Z79 (zEnd hf76) dX7_melts_16
def B_X7_spoils_109 (a1 : Int32) (x2 : Int32) (σ : zg_S) : Option (Int32 × zg_S) := zbd (f_X7_of a1 2 σ) (fun (r1 : Int32) (σ2 : zg_S) => (if x2 ≤ r1 then some (x2, σ2) else zbd (f_X7_of a1 2 σ2) (fun (r11 : Int32) (σ12 : zg_S) => some (r11, σ12))))
def B_X7_spoils_25 (a1 : Int32) (y0 : Int32) (σ : zg_S) : Option (Int32 × zg_S) := B_X7_spoils_109 a1 y0 σ
def f_X7_spoils (a1 : Int32) (σ : zg_S) : Option (Int32 × zg_S) := zbd (f_X7_isShaded a1 σ) (fun (r22 : Int32) (σ23 : zg_S) => (if r22 = 0 then zbd (f_X7_of a1 0 σ23) (fun (r31 : Int32) (σ32 : zg_S) => (if r31 = 0 then zbd (f_X7_melts a1 σ32) (fun (r98 : Int32) (σ99 : zg_S) => B_X7_spoils_109 a1 r98 σ99) else zbd (f_X7_of a1 0 σ32) (fun (r40 : Int32) (σ41 : zg_S) => (if r40 = 1 then zbd (f_X7_melts a1 σ41) (fun (r88 : Int32) (σ89 : zg_S) => B_X7_spoils_109 a1 (2 * r88) σ89) else zbd (f_X7_of a1 0 σ41) (fun (r49 : Int32) (σ50 : zg_S) => (if r49 = 3 then zbd (f_X7_melts a1 σ50) (fun (r78 : Int32) (σ79 : zg_S) => B_X7_spoils_109 a1 ((2 * r78) + 5) σ79) else zbd (f_X7_of a1 0 σ50) (fun (r58 : Int32) (σ59 : zg_S) => (if r58 = 5 then zbd (f_X7_melts a1 σ59) (fun (r68 : Int32) (σ69 : zg_S) => B_X7_spoils_109 a1 (r68 / 2) σ69) else B_X7_spoils_109 a1 0 σ59)))))))) else zbd (f_X7_of a1 0 σ23) (fun (r108 : Int32) (σ109 : zg_S) => (if r108 = 4 then B_X7_spoils_25 a1 2 σ109 else B_X7_spoils_25 a1 0 σ109))))
set_option maxHeartbeats 4000000 in
set_option maxRecDepth 100000 in
theorem c_X7_spoils (l : Launch) (D : va_G) (V : zz_V) (ad : Nat → Nat) (cA : Nat → ClassId) (a1 : Int32)  (σ : zg_S) (r0 : Int32) (σf : zg_S) (hf : f_X7_spoils a1 σ = some (r0, σf)) : zM_I l yX7_spoils wsX7_spoils 3 69 D V ML ad cA [.ref (ad 0), .int a1] σ r0 σf := by
  intro sz
  refine Met.ofW (cc := cX7_spoils) (maxL := 3) (ret := (some .int)) (by decide) rfl ?_
  intro p e s m args below meth c s₁ B hml hv
  obtain ⟨rfl, hC⟩ := hv
  have hx := B.exec
  have hb := B.bytes
  have hr := B.returns
  have hts := atoms_spec (ws := wsX7_spoils) B.pre
  have hown : s.vm.findClass RX7 = some m.cls := findClass_of_methodNamed B.named
  have hlk := B.notSynchronized
  have X : CallFix p m c cX7_spoils 3 s _ wsX7_spoils RX7 := ⟨hx, hb, hml, hown, hts⟩
  have Z := zz_enter hC
  generalize va_A (zg_W ML ad cA σ) sz = A at Z ⊢
  have hl := lv_entry ([.ref (ad 0), .int a1]) (n := 3) (Nat.le_of_ble_eq_true rfl)
  rw [lg_entry_eq]
  generalize (lg_sl ([.ref (ad 0), .int a1]) ++ List.replicate (3 - (lg_sl ([.ref (ad 0), .int a1])).length) Slot.unset).toArray = ls at hl ⊢
  have hl : lv_has ls 3 [(0, .ref (ad 0)), (1, .int a1)] := hl
  unfold f_X7_spoils at hf
  have b109_ : ∀ (x2 : Int32) (σ : zg_S), B_X7_spoils_109 a1 x2 σ = some (r0, σf) → ∀ (H : Heap) (locs : List Loc) (ls : Array Slot), zz_S D V A s (zg_W ML ad cA σ) (zg_T ML cA) H locs → lv_has ls 3 [(0, .ref (ad 0)), (1, .int a1), (2, .int x2)] → W p l e (headSpec wsX7_spoils { frames := 3, cells := 0, slots := 0, locals := 69 }).room s m (List.toArray [.ref (ad 0), .int a1]) below meth c H locs 0 0 (MQ below (va_Qi (fun r (_ : Unit) => r = r0) (fun _ t => zz_B D A (zg_W ML ad cA σf) (zg_T ML cA) t) A) (List.toArray [.ref (ad 0), .int a1]) s 0 0 A) (F0 m 109 ls []) := by
    intro x2 σ hf109_ H109_ locs109_ ls109_ Z109_ hl109_
    unfold B_X7_spoils_109 at hf109_
    refine lv_iload_n hx hb dX7_spoils_109 rfl (lv_at hl109_ 2 rfl) ?_
    refine lv_aload_n hx hb dX7_spoils_110 rfl (lv_at hl109_ 0 rfl) ?_
    refine lv_iload_n hx hb dX7_spoils_111 rfl (lv_at hl109_ 1 rfl) ?_
    refine lv_iconst (v := 2) hx hb dX7_spoils_112 (by decide) ?_
    obtain ⟨r1, σ2, hc3, hf4⟩ := zBd hf109_
    clear hf109_
    refine zy_ci (r0 := r1) (WS1 := zg_W ML ad cA σ2) (TYS1 := zg_T ML cA) Z109_ (va_runV (As := [.int a1, .int 2]) (rest := [.int x2]) X (c_X7_of l D V ad cA a1 2 σ r1 σ2 hc3 H109_.size) (cwV 2 hts gX7_spoils_X7_of rfl rfl rfl ⟨rfl, zh_X7_of⟩ ⟨Nat.le_of_ble_eq_true rfl, Nat.le_of_ble_eq_true rfl⟩) (zy_pV (ci := 7) Z109_ mL_ok mk_0 rfl rfl) rfl rfl hl109_.1 rfl (lv_room (Nat.le_of_ble_eq_true rfl)) dX7_spoils_113 ⟨Nat.le_of_ble_eq_true rfl, Nat.le_of_ble_eq_true rfl⟩) (fun H5 lo6 Z7 => ?_)
    clear Z109_ hc3
    refine lv_icmp_le (tgt := 128) hx hb dX7_spoils_116 (by decide) (fun b8 => ?_) (fun b8 => ?_)
    · have hf9 := zYes hf4 b8
      clear hf4
      refine lv_iload_n hx hb dX7_spoils_128 rfl (lv_at hl109_ 2 rfl) ?_
      exact zy_iret X hr hlk Z7 (zEnd hf9) dX7_spoils_129
    · have hf10 := zNot hf4 b8
      clear hf4
      refine lv_aload_n hx hb dX7_spoils_119 rfl (lv_at hl109_ 0 rfl) ?_
      refine lv_iload_n hx hb dX7_spoils_120 rfl (lv_at hl109_ 1 rfl) ?_
      refine lv_iconst (v := 2) hx hb dX7_spoils_121 (by decide) ?_
      obtain ⟨r11, σ12, hc13, hf14⟩ := zBd hf10
      clear hf10
      refine zy_ci (r0 := r11) (WS1 := zg_W ML ad cA σ12) (TYS1 := zg_T ML cA) Z7 (va_runV (As := [.int a1, .int 2]) (rest := []) X (c_X7_of l D V ad cA a1 2 σ2 r11 σ12 hc13 H5.size) (cwV 2 hts gX7_spoils_X7_of rfl rfl rfl ⟨rfl, zh_X7_of⟩ ⟨Nat.le_of_ble_eq_true rfl, Nat.le_of_ble_eq_true rfl⟩) (zy_pV (ci := 7) Z7 mL_ok mk_0 rfl rfl) rfl rfl hl109_.1 rfl (lv_room (Nat.le_of_ble_eq_true rfl)) dX7_spoils_122 ⟨Nat.le_of_ble_eq_true rfl, Nat.le_of_ble_eq_true rfl⟩) (fun H15 lo16 Z17 => ?_)
      clear Z7 hc13
      refine lv_goto (tgt := 129) hx hb dX7_spoils_125 (by decide) ?_
      exact zy_iret X hr hlk Z17 (zEnd hf14) dX7_spoils_129
  have b25_ : ∀ (y0 : Int32) (σ : zg_S), B_X7_spoils_25 a1 y0 σ = some (r0, σf) → ∀ (H : Heap) (locs : List Loc) (ls : Array Slot), zz_S D V A s (zg_W ML ad cA σ) (zg_T ML cA) H locs → lv_has ls 3 [(0, .ref (ad 0)), (1, .int a1)] → W p l e (headSpec wsX7_spoils { frames := 3, cells := 0, slots := 0, locals := 69 }).room s m (List.toArray [.ref (ad 0), .int a1]) below meth c H locs 0 0 (MQ below (va_Qi (fun r (_ : Unit) => r = r0) (fun _ t => zz_B D A (zg_W ML ad cA σf) (zg_T ML cA) t) A) (List.toArray [.ref (ad 0), .int a1]) s 0 0 A) (F0 m 25 ls [.int y0]) := by
    intro y0 σ hf25_ H25_ locs25_ ls25_ Z25_ hl25_
    unfold B_X7_spoils_25 at hf25_
    refine lv_istore_n (lv' := [(2, .int y0), (0, .ref (ad 0)), (1, .int a1)]) hx hb dX7_spoils_25 rfl hl25_ (by decide) rfl (fun ls19 hl18 => ?_)
    clear hl25_
    refine lv_goto (tgt := 109) hx hb dX7_spoils_26 (by decide) ?_
    exact b109_ y0 σ hf25_ _ _ _ Z25_ (lv_sub hl18 [1, 2, 0] rfl)
  refine lv_iconst (v := 0) hx hb dX7_spoils_0 (by decide) ?_
  refine lv_istore_n (lv' := [(2, .int 0), (0, .ref (ad 0)), (1, .int a1)]) hx hb dX7_spoils_1 rfl hl (by decide) rfl (fun ls21 hl20 => ?_)
  clear hl
  refine lv_aload_n hx hb dX7_spoils_2 rfl (lv_at hl20 1 rfl) ?_
  refine lv_iload_n hx hb dX7_spoils_3 rfl (lv_at hl20 2 rfl) ?_
  obtain ⟨r22, σ23, hc24, hf25⟩ := zBd hf
  clear hf
  refine zy_ci (r0 := r22) (WS1 := zg_W ML ad cA σ23) (TYS1 := zg_T ML cA) Z (va_runV (As := [.int a1]) (rest := []) X (c_X7_isShaded l D V ad cA a1 σ r22 σ23 hc24 s.heap.size) (cwV 1 hts gX7_spoils_X7_isShaded rfl rfl rfl ⟨rfl, zh_X7_isShaded⟩ ⟨Nat.le_of_ble_eq_true rfl, Nat.le_of_ble_eq_true rfl⟩) (zy_pV (ci := 7) Z mL_ok mk_0 rfl rfl) rfl rfl hl20.1 rfl (lv_room (Nat.le_of_ble_eq_true rfl)) dX7_spoils_4 ⟨Nat.le_of_ble_eq_true rfl, Nat.le_of_ble_eq_true rfl⟩) (fun H26 lo27 Z28 => ?_)
  clear Z hc24
  refine lv_if_eq (tgt := 29) hx hb dX7_spoils_7 (by decide) (fun b29 => ?_) (fun b29 => ?_)
  · have hf30 := zYes hf25 b29
    clear hf25
    refine lv_aload_n hx hb dX7_spoils_29 rfl (lv_at hl20 1 rfl) ?_
    refine lv_iload_n hx hb dX7_spoils_30 rfl (lv_at hl20 2 rfl) ?_
    refine lv_iconst (v := 0) hx hb dX7_spoils_31 (by decide) ?_
    obtain ⟨r31, σ32, hc33, hf34⟩ := zBd hf30
    clear hf30
    refine zy_ci (r0 := r31) (WS1 := zg_W ML ad cA σ32) (TYS1 := zg_T ML cA) Z28 (va_runV (As := [.int a1, .int 0]) (rest := []) X (c_X7_of l D V ad cA a1 0 σ23 r31 σ32 hc33 H26.size) (cwV 2 hts gX7_spoils_X7_of rfl rfl rfl ⟨rfl, zh_X7_of⟩ ⟨Nat.le_of_ble_eq_true rfl, Nat.le_of_ble_eq_true rfl⟩) (zy_pV (ci := 7) Z28 mL_ok mk_0 rfl rfl) rfl rfl hl20.1 rfl (lv_room (Nat.le_of_ble_eq_true rfl)) dX7_spoils_32 ⟨Nat.le_of_ble_eq_true rfl, Nat.le_of_ble_eq_true rfl⟩) (fun H35 lo36 Z37 => ?_)
    clear Z28 hc33
    refine lv_if_ne (tgt := 47) hx hb dX7_spoils_35 (by decide) (fun b38 => ?_) (fun b38 => ?_)
    · have hf39 := zNot hf34 b38
      clear hf34
      refine lv_aload_n hx hb dX7_spoils_47 rfl (lv_at hl20 1 rfl) ?_
      refine lv_iload_n hx hb dX7_spoils_48 rfl (lv_at hl20 2 rfl) ?_
      refine lv_iconst (v := 0) hx hb dX7_spoils_49 (by decide) ?_
      obtain ⟨r40, σ41, hc42, hf43⟩ := zBd hf39
      clear hf39
      refine zy_ci (r0 := r40) (WS1 := zg_W ML ad cA σ41) (TYS1 := zg_T ML cA) Z37 (va_runV (As := [.int a1, .int 0]) (rest := []) X (c_X7_of l D V ad cA a1 0 σ32 r40 σ41 hc42 H35.size) (cwV 2 hts gX7_spoils_X7_of rfl rfl rfl ⟨rfl, zh_X7_of⟩ ⟨Nat.le_of_ble_eq_true rfl, Nat.le_of_ble_eq_true rfl⟩) (zy_pV (ci := 7) Z37 mL_ok mk_0 rfl rfl) rfl rfl hl20.1 rfl (lv_room (Nat.le_of_ble_eq_true rfl)) dX7_spoils_50 ⟨Nat.le_of_ble_eq_true rfl, Nat.le_of_ble_eq_true rfl⟩) (fun H44 lo45 Z46 => ?_)
      clear Z37 hc42
      refine lv_iconst (v := 1) hx hb dX7_spoils_53 (by decide) ?_
      refine lv_icmp_ne (tgt := 68) hx hb dX7_spoils_54 (by decide) (fun b47 => ?_) (fun b47 => ?_)
      · have hf48 := zNot hf43 b47
        clear hf43
        refine lv_aload_n hx hb dX7_spoils_68 rfl (lv_at hl20 1 rfl) ?_
        refine lv_iload_n hx hb dX7_spoils_69 rfl (lv_at hl20 2 rfl) ?_
        refine lv_iconst (v := 0) hx hb dX7_spoils_70 (by decide) ?_
        obtain ⟨r49, σ50, hc51, hf52⟩ := zBd hf48
        clear hf48
        refine zy_ci (r0 := r49) (WS1 := zg_W ML ad cA σ50) (TYS1 := zg_T ML cA) Z46 (va_runV (As := [.int a1, .int 0]) (rest := []) X (c_X7_of l D V ad cA a1 0 σ41 r49 σ50 hc51 H44.size) (cwV 2 hts gX7_spoils_X7_of rfl rfl rfl ⟨rfl, zh_X7_of⟩ ⟨Nat.le_of_ble_eq_true rfl, Nat.le_of_ble_eq_true rfl⟩) (zy_pV (ci := 7) Z46 mL_ok mk_0 rfl rfl) rfl rfl hl20.1 rfl (lv_room (Nat.le_of_ble_eq_true rfl)) dX7_spoils_71 ⟨Nat.le_of_ble_eq_true rfl, Nat.le_of_ble_eq_true rfl⟩) (fun H53 lo54 Z55 => ?_)
        clear Z46 hc51
        refine lv_iconst (v := 3) hx hb dX7_spoils_74 (by decide) ?_
        refine lv_icmp_ne (tgt := 91) hx hb dX7_spoils_75 (by decide) (fun b56 => ?_) (fun b56 => ?_)
        · have hf57 := zNot hf52 b56
          clear hf52
          refine lv_aload_n hx hb dX7_spoils_91 rfl (lv_at hl20 1 rfl) ?_
          refine lv_iload_n hx hb dX7_spoils_92 rfl (lv_at hl20 2 rfl) ?_
          refine lv_iconst (v := 0) hx hb dX7_spoils_93 (by decide) ?_
          obtain ⟨r58, σ59, hc60, hf61⟩ := zBd hf57
          clear hf57
          refine zy_ci (r0 := r58) (WS1 := zg_W ML ad cA σ59) (TYS1 := zg_T ML cA) Z55 (va_runV (As := [.int a1, .int 0]) (rest := []) X (c_X7_of l D V ad cA a1 0 σ50 r58 σ59 hc60 H53.size) (cwV 2 hts gX7_spoils_X7_of rfl rfl rfl ⟨rfl, zh_X7_of⟩ ⟨Nat.le_of_ble_eq_true rfl, Nat.le_of_ble_eq_true rfl⟩) (zy_pV (ci := 7) Z55 mL_ok mk_0 rfl rfl) rfl rfl hl20.1 rfl (lv_room (Nat.le_of_ble_eq_true rfl)) dX7_spoils_94 ⟨Nat.le_of_ble_eq_true rfl, Nat.le_of_ble_eq_true rfl⟩) (fun H62 lo63 Z64 => ?_)
          clear Z55 hc60
          refine lv_iconst (v := 5) hx hb dX7_spoils_97 (by decide) ?_
          refine lv_icmp_ne (tgt := 109) hx hb dX7_spoils_98 (by decide) (fun b65 => ?_) (fun b65 => ?_)
          · have hf66 := zNot hf61 b65
            clear hf61
            exact b109_ 0 σ59 hf66 _ _ _ Z64 (lv_sub hl20 [1, 2, 0] rfl)
          · have hf67 := zYes hf61 b65
            clear hf61
            refine lv_aload_n hx hb dX7_spoils_101 rfl (lv_at hl20 1 rfl) ?_
            refine lv_iload_n hx hb dX7_spoils_102 rfl (lv_at hl20 2 rfl) ?_
            obtain ⟨r68, σ69, hc70, hf71⟩ := zBd hf67
            clear hf67
            refine zy_ci (r0 := r68) (WS1 := zg_W ML ad cA σ69) (TYS1 := zg_T ML cA) Z64 (va_runV (As := [.int a1]) (rest := []) X (c_X7_melts l D V ad cA a1 σ59 r68 σ69 hc70 H62.size) (cwV 1 hts gX7_spoils_X7_melts rfl rfl rfl ⟨rfl, zh_X7_melts⟩ ⟨Nat.le_of_ble_eq_true rfl, Nat.le_of_ble_eq_true rfl⟩) (zy_pV (ci := 7) Z64 mL_ok mk_0 rfl rfl) rfl rfl hl20.1 rfl (lv_room (Nat.le_of_ble_eq_true rfl)) dX7_spoils_103 ⟨Nat.le_of_ble_eq_true rfl, Nat.le_of_ble_eq_true rfl⟩) (fun H72 lo73 Z74 => ?_)
            clear Z64 hc70
            refine lv_iconst (v := 2) hx hb dX7_spoils_106 (by decide) ?_
            refine lv_idiv hx hb dX7_spoils_107 (by decide) ?_
            refine lv_istore_n (lv' := [(2, .int (r68 / 2)), (0, .ref (ad 0)), (1, .int a1)]) hx hb dX7_spoils_108 rfl hl20 (by decide) rfl (fun ls76 hl75 => ?_)
            clear hl20
            exact b109_ (r68 / 2) σ69 hf71 _ _ _ Z74 (lv_sub hl75 [1, 2, 0] rfl)
        · have hf77 := zYes hf52 b56
          clear hf52
          refine lv_iconst (v := 2) hx hb dX7_spoils_78 (by decide) ?_
          refine lv_aload_n hx hb dX7_spoils_79 rfl (lv_at hl20 1 rfl) ?_
          refine lv_iload_n hx hb dX7_spoils_80 rfl (lv_at hl20 2 rfl) ?_
          obtain ⟨r78, σ79, hc80, hf81⟩ := zBd hf77
          clear hf77
          refine zy_ci (r0 := r78) (WS1 := zg_W ML ad cA σ79) (TYS1 := zg_T ML cA) Z55 (va_runV (As := [.int a1]) (rest := [.int 2]) X (c_X7_melts l D V ad cA a1 σ50 r78 σ79 hc80 H53.size) (cwV 1 hts gX7_spoils_X7_melts rfl rfl rfl ⟨rfl, zh_X7_melts⟩ ⟨Nat.le_of_ble_eq_true rfl, Nat.le_of_ble_eq_true rfl⟩) (zy_pV (ci := 7) Z55 mL_ok mk_0 rfl rfl) rfl rfl hl20.1 rfl (lv_room (Nat.le_of_ble_eq_true rfl)) dX7_spoils_81 ⟨Nat.le_of_ble_eq_true rfl, Nat.le_of_ble_eq_true rfl⟩) (fun H82 lo83 Z84 => ?_)
          clear Z55 hc80
          refine lv_imul hx hb dX7_spoils_84 ?_
          refine lv_iconst (v := 5) hx hb dX7_spoils_85 (by decide) ?_
          refine lv_iadd hx hb dX7_spoils_86 ?_
          refine lv_istore_n (lv' := [(2, .int ((2 * r78) + 5)), (0, .ref (ad 0)), (1, .int a1)]) hx hb dX7_spoils_87 rfl hl20 (by decide) rfl (fun ls86 hl85 => ?_)
          clear hl20
          refine lv_goto (tgt := 109) hx hb dX7_spoils_88 (by decide) ?_
          exact b109_ ((2 * r78) + 5) σ79 hf81 _ _ _ Z84 (lv_sub hl85 [1, 2, 0] rfl)
      · have hf87 := zYes hf43 b47
        clear hf43
        refine lv_iconst (v := 2) hx hb dX7_spoils_57 (by decide) ?_
        refine lv_aload_n hx hb dX7_spoils_58 rfl (lv_at hl20 1 rfl) ?_
        refine lv_iload_n hx hb dX7_spoils_59 rfl (lv_at hl20 2 rfl) ?_
        obtain ⟨r88, σ89, hc90, hf91⟩ := zBd hf87
        clear hf87
        refine zy_ci (r0 := r88) (WS1 := zg_W ML ad cA σ89) (TYS1 := zg_T ML cA) Z46 (va_runV (As := [.int a1]) (rest := [.int 2]) X (c_X7_melts l D V ad cA a1 σ41 r88 σ89 hc90 H44.size) (cwV 1 hts gX7_spoils_X7_melts rfl rfl rfl ⟨rfl, zh_X7_melts⟩ ⟨Nat.le_of_ble_eq_true rfl, Nat.le_of_ble_eq_true rfl⟩) (zy_pV (ci := 7) Z46 mL_ok mk_0 rfl rfl) rfl rfl hl20.1 rfl (lv_room (Nat.le_of_ble_eq_true rfl)) dX7_spoils_60 ⟨Nat.le_of_ble_eq_true rfl, Nat.le_of_ble_eq_true rfl⟩) (fun H92 lo93 Z94 => ?_)
        clear Z46 hc90
        refine lv_imul hx hb dX7_spoils_63 ?_
        refine lv_istore_n (lv' := [(2, .int (2 * r88)), (0, .ref (ad 0)), (1, .int a1)]) hx hb dX7_spoils_64 rfl hl20 (by decide) rfl (fun ls96 hl95 => ?_)
        clear hl20
        refine lv_goto (tgt := 109) hx hb dX7_spoils_65 (by decide) ?_
        exact b109_ (2 * r88) σ89 hf91 _ _ _ Z94 (lv_sub hl95 [1, 2, 0] rfl)
    · have hf97 := zYes hf34 b38
      clear hf34
      refine lv_aload_n hx hb dX7_spoils_38 rfl (lv_at hl20 1 rfl) ?_
      refine lv_iload_n hx hb dX7_spoils_39 rfl (lv_at hl20 2 rfl) ?_
      obtain ⟨r98, σ99, hc100, hf101⟩ := zBd hf97
      clear hf97
      refine zy_ci (r0 := r98) (WS1 := zg_W ML ad cA σ99) (TYS1 := zg_T ML cA) Z37 (va_runV (As := [.int a1]) (rest := []) X (c_X7_melts l D V ad cA a1 σ32 r98 σ99 hc100 H35.size) (cwV 1 hts gX7_spoils_X7_melts rfl rfl rfl ⟨rfl, zh_X7_melts⟩ ⟨Nat.le_of_ble_eq_true rfl, Nat.le_of_ble_eq_true rfl⟩) (zy_pV (ci := 7) Z37 mL_ok mk_0 rfl rfl) rfl rfl hl20.1 rfl (lv_room (Nat.le_of_ble_eq_true rfl)) dX7_spoils_40 ⟨Nat.le_of_ble_eq_true rfl, Nat.le_of_ble_eq_true rfl⟩) (fun H102 lo103 Z104 => ?_)
      clear Z37 hc100
      refine lv_istore_n (lv' := [(2, .int r98), (0, .ref (ad 0)), (1, .int a1)]) hx hb dX7_spoils_43 rfl hl20 (by decide) rfl (fun ls106 hl105 => ?_)
      clear hl20
      refine lv_goto (tgt := 109) hx hb dX7_spoils_44 (by decide) ?_
      exact b109_ r98 σ99 hf101 _ _ _ Z104 (lv_sub hl105 [1, 2, 0] rfl)
  · have hf107 := zNot hf25 b29
    clear hf25
    refine lv_aload_n hx hb dX7_spoils_10 rfl (lv_at hl20 1 rfl) ?_
    refine lv_iload_n hx hb dX7_spoils_11 rfl (lv_at hl20 2 rfl) ?_
    refine lv_iconst (v := 0) hx hb dX7_spoils_12 (by decide) ?_
    obtain ⟨r108, σ109, hc110, hf111⟩ := zBd hf107
    clear hf107
    refine zy_ci (r0 := r108) (WS1 := zg_W ML ad cA σ109) (TYS1 := zg_T ML cA) Z28 (va_runV (As := [.int a1, .int 0]) (rest := []) X (c_X7_of l D V ad cA a1 0 σ23 r108 σ109 hc110 H26.size) (cwV 2 hts gX7_spoils_X7_of rfl rfl rfl ⟨rfl, zh_X7_of⟩ ⟨Nat.le_of_ble_eq_true rfl, Nat.le_of_ble_eq_true rfl⟩) (zy_pV (ci := 7) Z28 mL_ok mk_0 rfl rfl) rfl rfl hl20.1 rfl (lv_room (Nat.le_of_ble_eq_true rfl)) dX7_spoils_13 ⟨Nat.le_of_ble_eq_true rfl, Nat.le_of_ble_eq_true rfl⟩) (fun H112 lo113 Z114 => ?_)
    clear Z28 hc110
    refine lv_iconst (v := 4) hx hb dX7_spoils_16 (by decide) ?_
    refine lv_icmp_ne (tgt := 24) hx hb dX7_spoils_17 (by decide) (fun b115 => ?_) (fun b115 => ?_)
    · have hf116 := zNot hf111 b115
      clear hf111
      refine lv_iconst (v := 0) hx hb dX7_spoils_24 (by decide) ?_
      exact b25_ 0 σ109 hf116 _ _ _ Z114 (lv_sub hl20 [1, 2] rfl)
    · have hf117 := zYes hf111 b115
      clear hf111
      refine lv_iconst (v := 2) hx hb dX7_spoils_20 (by decide) ?_
      refine lv_goto (tgt := 25) hx hb dX7_spoils_21 (by decide) ?_
      exact b25_ 2 σ109 hf117 _ _ _ Z114 (lv_sub hl20 [1, 2] rfl)
def B_X7_hauls_125 (rec67_ : Int32 → Int32 → zg_S → Option (Int32 × zg_S)) (x2 : Int32) (y0 : Int32) (σ : zg_S) : Option (Int32 × zg_S) := rec67_ y0 (x2 + 1) σ
def B_X7_hauls_124 (rec67_ : Int32 → Int32 → zg_S → Option (Int32 × zg_S)) (x1 : Int32) (x2 : Int32) (σ : zg_S) : Option (Int32 × zg_S) := B_X7_hauls_125 rec67_ x2 x1 σ
def B_X7_hauls_120 (rec67_ : Int32 → Int32 → zg_S → Option (Int32 × zg_S)) (x2 : Int32) (σ : zg_S) : Option (Int32 × zg_S) := B_X7_hauls_125 rec67_ x2 x2 σ
def B_X7_hauls_98 (rec67_ : Int32 → Int32 → zg_S → Option (Int32 × zg_S)) (x1 : Int32) (x2 : Int32) (y0 : Int32) (σ : zg_S) : Option (Int32 × zg_S) := (if y0 = 0 then B_X7_hauls_124 rec67_ x1 x2 σ else (if x1 < 0 then B_X7_hauls_120 rec67_ x2 σ else zbd (f_X7_spoils x2 σ) (fun (r13 : Int32) (σ14 : zg_S) => zbd (f_X7_spoils x1 σ14) (fun (r20 : Int32) (σ21 : zg_S) => (if r13 ≤ r20 then B_X7_hauls_124 rec67_ x1 x2 σ21 else B_X7_hauls_120 rec67_ x2 σ21)))))
def B_X7_hauls_97 (rec67_ : Int32 → Int32 → zg_S → Option (Int32 × zg_S)) (x1 : Int32) (x2 : Int32) (σ : zg_S) : Option (Int32 × zg_S) := B_X7_hauls_98 rec67_ x1 x2 0 σ
def B_X7_hauls_67 (rec67_ : Int32 → Int32 → zg_S → Option (Int32 × zg_S)) (x1 : Int32) (x2 : Int32) (σ : zg_S) : Option (Int32 × zg_S) := (if (σ 1 0) ≤ x2 then (if 0 ≤ x1 then zbd (f_X7_of x1 1 σ) (fun (r34 : Int32) (σ35 : zg_S) => zbd (f_X7_shadeFrom σ35) (fun (r41 : Int32) (σ42 : zg_S) => (if r41 ≤ r34 then some (1, σ42) else some ((-1), σ42)))) else some (0, σ)) else zbd (f_X7_isShaded x2 σ) (fun (r53 : Int32) (σ54 : zg_S) => (if r53 = 0 then zbd (f_X7_spoils x2 σ54) (fun (r63 : Int32) (σ64 : zg_S) => (if r63 ≤ 0 then B_X7_hauls_97 rec67_ x1 x2 σ64 else B_X7_hauls_98 rec67_ x1 x2 1 σ64)) else B_X7_hauls_97 rec67_ x1 x2 σ54)))
def L_X7_hauls_67 : Nat → Int32 → Int32 → zg_S → Option (Int32 × zg_S) := zfix (fun _ _ _ => none) (B_X7_hauls_67)
def B_X7_hauls_43 (y0 : Int32) (σ : zg_S) : Option (Int32 × zg_S) := zbd (f_X7_payIf 1 σ) (fun (r75 : Int32) (σ76 : zg_S) => zbd (f_X7_payIf y0 σ76) (fun (r82 : Int32) (σ83 : zg_S) => (if r75 ≤ r82 then some (y0, σ83) else some (1, σ83))))
def f_X7_hauls  (σ : zg_S) : Option (Int32 × zg_S) := (if (σ 1 10) = 0 then some (0, σ) else (if (σ 1 10) = 2 then zbd (f_X7_payIf (-1) σ) (fun (r101 : Int32) (σ102 : zg_S) => zbd (f_X7_payIf 0 σ102) (fun (r110 : Int32) (σ111 : zg_S) => (if r101 ≤ r110 then B_X7_hauls_43 0 σ111 else B_X7_hauls_43 (-1) σ111))) else L_X7_hauls_67 zfu (-1) 0 σ))
set_option maxHeartbeats 4000000 in
set_option maxRecDepth 100000 in
theorem c_X7_hauls (l : Launch) (D : va_G) (V : zz_V) (ad : Nat → Nat) (cA : Nat → ClassId)   (σ : zg_S) (r0 : Int32) (σf : zg_S) (hf : f_X7_hauls  σ = some (r0, σf)) : zM_I l yX7_hauls wsX7_hauls 4 91 D V ML ad cA [.ref (ad 0)] σ r0 σf := by
  intro sz
  refine Met.ofW (cc := cX7_hauls) (maxL := 4) (ret := (some .int)) (by decide) rfl ?_
  intro p e s m args below meth c s₁ B hml hv
  obtain ⟨rfl, hC⟩ := hv
  have hx := B.exec
  have hb := B.bytes
  have hr := B.returns
  have hts := atoms_spec (ws := wsX7_hauls) B.pre
  have hown : s.vm.findClass RX7 = some m.cls := findClass_of_methodNamed B.named
  have hlk := B.notSynchronized
  have X : CallFix p m c cX7_hauls 4 s _ wsX7_hauls RX7 := ⟨hx, hb, hml, hown, hts⟩
  have Z := zz_enter hC
  generalize va_A (zg_W ML ad cA σ) sz = A at Z ⊢
  have hl := lv_entry ([.ref (ad 0)]) (n := 4) (Nat.le_of_ble_eq_true rfl)
  rw [lg_entry_eq]
  generalize (lg_sl ([.ref (ad 0)]) ++ List.replicate (4 - (lg_sl ([.ref (ad 0)])).length) Slot.unset).toArray = ls at hl ⊢
  have hl : lv_has ls 4 [(0, .ref (ad 0))] := hl
  unfold f_X7_hauls at hf
  have b67_ : ∀ (k67_ : Nat) (x1 : Int32) (x2 : Int32) (σ : zg_S), L_X7_hauls_67 k67_ x1 x2 σ = some (r0, σf) → ∀ (H : Heap) (locs : List Loc) (ls : Array Slot), zz_S D V A s (zg_W ML ad cA σ) (zg_T ML cA) H locs → lv_has ls 4 [(0, .ref (ad 0)), (1, .int x1), (2, .int x2)] → W p l e (headSpec wsX7_hauls { frames := 4, cells := 0, slots := 0, locals := 91 }).room s m (List.toArray [.ref (ad 0)]) below meth c H locs 0 0 (MQ below (va_Qi (fun r (_ : Unit) => r = r0) (fun _ t => zz_B D A (zg_W ML ad cA σf) (zg_T ML cA) t) A) (List.toArray [.ref (ad 0)]) s 0 0 A) (F0 m 67 ls []) := by
    intro k67_
    induction k67_ with
    | zero =>
        intro x1 x2 σ hf67_ H67_ locs67_ ls67_ Z67_ hl67_
        exact zNone hf67_
    | succ k67_ ih67_ =>
        intro x1 x2 σ hf67_ H67_ locs67_ ls67_ Z67_ hl67_
        replace hf67_ : B_X7_hauls_67 (L_X7_hauls_67 k67_) x1 x2 σ = some (r0, σf) := hf67_
        unfold B_X7_hauls_67 at hf67_
        have b98_ : ∀ (x1 : Int32) (x2 : Int32) (y0 : Int32) (σ : zg_S), B_X7_hauls_98 (L_X7_hauls_67 k67_) x1 x2 y0 σ = some (r0, σf) → ∀ (H : Heap) (locs : List Loc) (ls : Array Slot), zz_S D V A s (zg_W ML ad cA σ) (zg_T ML cA) H locs → lv_has ls 4 [(0, .ref (ad 0)), (1, .int x1), (2, .int x2)] → W p l e (headSpec wsX7_hauls { frames := 4, cells := 0, slots := 0, locals := 91 }).room s m (List.toArray [.ref (ad 0)]) below meth c H locs 0 0 (MQ below (va_Qi (fun r (_ : Unit) => r = r0) (fun _ t => zz_B D A (zg_W ML ad cA σf) (zg_T ML cA) t) A) (List.toArray [.ref (ad 0)]) s 0 0 A) (F0 m 98 ls [.int y0]) := by
          intro x1 x2 y0 σ hf98_ H98_ locs98_ ls98_ Z98_ hl98_
          unfold B_X7_hauls_98 at hf98_
          have b125_ : ∀ (x2 : Int32) (y0 : Int32) (σ : zg_S), B_X7_hauls_125 (L_X7_hauls_67 k67_) x2 y0 σ = some (r0, σf) → ∀ (H : Heap) (locs : List Loc) (ls : Array Slot), zz_S D V A s (zg_W ML ad cA σ) (zg_T ML cA) H locs → lv_has ls 4 [(0, .ref (ad 0)), (2, .int x2)] → W p l e (headSpec wsX7_hauls { frames := 4, cells := 0, slots := 0, locals := 91 }).room s m (List.toArray [.ref (ad 0)]) below meth c H locs 0 0 (MQ below (va_Qi (fun r (_ : Unit) => r = r0) (fun _ t => zz_B D A (zg_W ML ad cA σf) (zg_T ML cA) t) A) (List.toArray [.ref (ad 0)]) s 0 0 A) (F0 m 125 ls [.int y0]) := by
            intro x2 y0 σ hf125_ H125_ locs125_ ls125_ Z125_ hl125_
            unfold B_X7_hauls_125 at hf125_
            refine lv_istore_n (lv' := [(1, .int y0), (0, .ref (ad 0)), (2, .int x2)]) hx hb dX7_hauls_125 rfl hl125_ (by decide) rfl (fun ls2 hl1 => ?_)
            clear hl125_
            refine lv_iinc (v := (x2 + 1)) (lv' := [(2, .int (x2 + 1)), (1, .int y0), (0, .ref (ad 0))]) hx hb dX7_hauls_126 hl1 (k := 2) rfl rfl (by decide) rfl (fun ls4 hl3 => ?_)
            clear hl1
            refine lv_goto (tgt := 67) hx hb dX7_hauls_129 (by decide) ?_
            exact ih67_ y0 (x2 + 1) σ hf125_ _ _ _ Z125_ (lv_sub hl3 [2, 1, 0] rfl)
          have b124_ : ∀ (x1 : Int32) (x2 : Int32) (σ : zg_S), B_X7_hauls_124 (L_X7_hauls_67 k67_) x1 x2 σ = some (r0, σf) → ∀ (H : Heap) (locs : List Loc) (ls : Array Slot), zz_S D V A s (zg_W ML ad cA σ) (zg_T ML cA) H locs → lv_has ls 4 [(0, .ref (ad 0)), (1, .int x1), (2, .int x2)] → W p l e (headSpec wsX7_hauls { frames := 4, cells := 0, slots := 0, locals := 91 }).room s m (List.toArray [.ref (ad 0)]) below meth c H locs 0 0 (MQ below (va_Qi (fun r (_ : Unit) => r = r0) (fun _ t => zz_B D A (zg_W ML ad cA σf) (zg_T ML cA) t) A) (List.toArray [.ref (ad 0)]) s 0 0 A) (F0 m 124 ls []) := by
            intro x1 x2 σ hf124_ H124_ locs124_ ls124_ Z124_ hl124_
            unfold B_X7_hauls_124 at hf124_
            refine lv_iload_n hx hb dX7_hauls_124 rfl (lv_at hl124_ 1 rfl) ?_
            exact b125_ x2 x1 σ hf124_ _ _ _ Z124_ (lv_sub hl124_ [0, 2] rfl)
          have b120_ : ∀ (x2 : Int32) (σ : zg_S), B_X7_hauls_120 (L_X7_hauls_67 k67_) x2 σ = some (r0, σf) → ∀ (H : Heap) (locs : List Loc) (ls : Array Slot), zz_S D V A s (zg_W ML ad cA σ) (zg_T ML cA) H locs → lv_has ls 4 [(0, .ref (ad 0)), (2, .int x2)] → W p l e (headSpec wsX7_hauls { frames := 4, cells := 0, slots := 0, locals := 91 }).room s m (List.toArray [.ref (ad 0)]) below meth c H locs 0 0 (MQ below (va_Qi (fun r (_ : Unit) => r = r0) (fun _ t => zz_B D A (zg_W ML ad cA σf) (zg_T ML cA) t) A) (List.toArray [.ref (ad 0)]) s 0 0 A) (F0 m 120 ls []) := by
            intro x2 σ hf120_ H120_ locs120_ ls120_ Z120_ hl120_
            unfold B_X7_hauls_120 at hf120_
            refine lv_iload_n hx hb dX7_hauls_120 rfl (lv_at hl120_ 1 rfl) ?_
            refine lv_goto (tgt := 125) hx hb dX7_hauls_121 (by decide) ?_
            exact b125_ x2 x2 σ hf120_ _ _ _ Z120_ (lv_sub hl120_ [0, 1] rfl)
          refine lv_istore_n (lv' := [(3, .int y0), (0, .ref (ad 0)), (1, .int x1), (2, .int x2)]) hx hb dX7_hauls_98 rfl hl98_ (by decide) rfl (fun ls6 hl5 => ?_)
          clear hl98_
          refine lv_iload_n hx hb dX7_hauls_99 rfl (lv_at hl5 0 rfl) ?_
          refine lv_if_eq (tgt := 124) hx hb dX7_hauls_100 (by decide) (fun b7 => ?_) (fun b7 => ?_)
          · have hf8 := zYes hf98_ b7
            clear hf98_
            exact b124_ x1 x2 σ hf8 _ _ _ Z98_ (lv_sub hl5 [1, 2, 3] rfl)
          · have hf9 := zNot hf98_ b7
            clear hf98_
            refine lv_iload_n hx hb dX7_hauls_103 rfl (lv_at hl5 2 rfl) ?_
            refine lv_if_lt (tgt := 120) hx hb dX7_hauls_104 (by decide) (fun b10 => ?_) (fun b10 => ?_)
            · have hf11 := zYes hf9 b10
              clear hf9
              exact b120_ x2 σ hf11 _ _ _ Z98_ (lv_sub hl5 [1, 3] rfl)
            · have hf12 := zNot hf9 b10
              clear hf9
              refine lv_aload_n hx hb dX7_hauls_107 rfl (lv_at hl5 1 rfl) ?_
              refine lv_iload_n hx hb dX7_hauls_108 rfl (lv_at hl5 3 rfl) ?_
              obtain ⟨r13, σ14, hc15, hf16⟩ := zBd hf12
              clear hf12
              refine zy_ci (r0 := r13) (WS1 := zg_W ML ad cA σ14) (TYS1 := zg_T ML cA) Z98_ (va_runV (As := [.int x2]) (rest := []) X (c_X7_spoils l D V ad cA x2 σ r13 σ14 hc15 H98_.size) (cwV 1 hts gX7_hauls_X7_spoils rfl rfl rfl ⟨rfl, zh_X7_spoils⟩ ⟨Nat.le_of_ble_eq_true rfl, Nat.le_of_ble_eq_true rfl⟩) (zy_pV (ci := 7) Z98_ mL_ok mk_0 rfl rfl) rfl rfl hl5.1 rfl (lv_room (Nat.le_of_ble_eq_true rfl)) dX7_hauls_109 ⟨Nat.le_of_ble_eq_true rfl, Nat.le_of_ble_eq_true rfl⟩) (fun H17 lo18 Z19 => ?_)
              clear Z98_ hc15
              refine lv_aload_n hx hb dX7_hauls_112 rfl (lv_at hl5 1 rfl) ?_
              refine lv_iload_n hx hb dX7_hauls_113 rfl (lv_at hl5 2 rfl) ?_
              obtain ⟨r20, σ21, hc22, hf23⟩ := zBd hf16
              clear hf16
              refine zy_ci (r0 := r20) (WS1 := zg_W ML ad cA σ21) (TYS1 := zg_T ML cA) Z19 (va_runV (As := [.int x1]) (rest := [.int r13]) X (c_X7_spoils l D V ad cA x1 σ14 r20 σ21 hc22 H17.size) (cwV 1 hts gX7_hauls_X7_spoils rfl rfl rfl ⟨rfl, zh_X7_spoils⟩ ⟨Nat.le_of_ble_eq_true rfl, Nat.le_of_ble_eq_true rfl⟩) (zy_pV (ci := 7) Z19 mL_ok mk_0 rfl rfl) rfl rfl hl5.1 rfl (lv_room (Nat.le_of_ble_eq_true rfl)) dX7_hauls_114 ⟨Nat.le_of_ble_eq_true rfl, Nat.le_of_ble_eq_true rfl⟩) (fun H24 lo25 Z26 => ?_)
              clear Z19 hc22
              refine lv_icmp_le (tgt := 124) hx hb dX7_hauls_117 (by decide) (fun b27 => ?_) (fun b27 => ?_)
              · have hf28 := zYes hf23 b27
                clear hf23
                exact b124_ x1 x2 σ21 hf28 _ _ _ Z26 (lv_sub hl5 [1, 2, 3] rfl)
              · have hf29 := zNot hf23 b27
                clear hf23
                exact b120_ x2 σ21 hf29 _ _ _ Z26 (lv_sub hl5 [1, 3] rfl)
        have b97_ : ∀ (x1 : Int32) (x2 : Int32) (σ : zg_S), B_X7_hauls_97 (L_X7_hauls_67 k67_) x1 x2 σ = some (r0, σf) → ∀ (H : Heap) (locs : List Loc) (ls : Array Slot), zz_S D V A s (zg_W ML ad cA σ) (zg_T ML cA) H locs → lv_has ls 4 [(0, .ref (ad 0)), (1, .int x1), (2, .int x2)] → W p l e (headSpec wsX7_hauls { frames := 4, cells := 0, slots := 0, locals := 91 }).room s m (List.toArray [.ref (ad 0)]) below meth c H locs 0 0 (MQ below (va_Qi (fun r (_ : Unit) => r = r0) (fun _ t => zz_B D A (zg_W ML ad cA σf) (zg_T ML cA) t) A) (List.toArray [.ref (ad 0)]) s 0 0 A) (F0 m 97 ls []) := by
          intro x1 x2 σ hf97_ H97_ locs97_ ls97_ Z97_ hl97_
          unfold B_X7_hauls_97 at hf97_
          refine lv_iconst (v := 0) hx hb dX7_hauls_97 (by decide) ?_
          exact b98_ x1 x2 0 σ hf97_ _ _ _ Z97_ (lv_sub hl97_ [0, 1, 2] rfl)
        refine lv_iload_n hx hb dX7_hauls_67 rfl (lv_at hl67_ 2 rfl) ?_
        refine lv_aload_n hx hb dX7_hauls_68 rfl (lv_at hl67_ 0 rfl) ?_
        refine zy_get (v := .ref (ad 1)) X Z67_ mL_ok mk_0 rfl rfl (fun w h => List.mem_cons_of_mem _ (List.mem_append_right _ h)) 0 rfl (zz_m 1 rfl) rfl dX7_hauls_69 ?_
        refine lv_iconst (v := 0) hx hb dX7_hauls_72 (by decide) ?_
        refine zy_ild X Z67_ mL_ok mk_1 ml_1 (zz_in 0 3047 rfl) dX7_hauls_73 ?_
        refine zz_v (v := σ 1 0) rfl ?_
        refine lv_icmp_ge (tgt := 132) hx hb dX7_hauls_74 (by decide) (fun b30 => ?_) (fun b30 => ?_)
        · have hf31 := zYes hf67_ b30
          clear hf67_
          refine lv_iload_n hx hb dX7_hauls_132 rfl (lv_at hl67_ 1 rfl) ?_
          refine lv_if_ge (tgt := 140) hx hb dX7_hauls_133 (by decide) (fun b32 => ?_) (fun b32 => ?_)
          · have hf33 := zYes hf31 b32
            clear hf31
            refine lv_aload_n hx hb dX7_hauls_140 rfl (lv_at hl67_ 0 rfl) ?_
            refine lv_iload_n hx hb dX7_hauls_141 rfl (lv_at hl67_ 1 rfl) ?_
            refine lv_iconst (v := 1) hx hb dX7_hauls_142 (by decide) ?_
            obtain ⟨r34, σ35, hc36, hf37⟩ := zBd hf33
            clear hf33
            refine zy_ci (r0 := r34) (WS1 := zg_W ML ad cA σ35) (TYS1 := zg_T ML cA) Z67_ (va_runV (As := [.int x1, .int 1]) (rest := []) X (c_X7_of l D V ad cA x1 1 σ r34 σ35 hc36 H67_.size) (cwV 2 hts gX7_hauls_X7_of rfl rfl rfl ⟨rfl, zh_X7_of⟩ ⟨Nat.le_of_ble_eq_true rfl, Nat.le_of_ble_eq_true rfl⟩) (zy_pV (ci := 7) Z67_ mL_ok mk_0 rfl rfl) rfl rfl hl67_.1 rfl (lv_room (Nat.le_of_ble_eq_true rfl)) dX7_hauls_143 ⟨Nat.le_of_ble_eq_true rfl, Nat.le_of_ble_eq_true rfl⟩) (fun H38 lo39 Z40 => ?_)
            clear Z67_ hc36
            refine lv_aload_n hx hb dX7_hauls_146 rfl (lv_at hl67_ 0 rfl) ?_
            obtain ⟨r41, σ42, hc43, hf44⟩ := zBd hf37
            clear hf37
            refine zy_ci (r0 := r41) (WS1 := zg_W ML ad cA σ42) (TYS1 := zg_T ML cA) Z40 (va_runV (As := []) (rest := [.int r34]) X (c_X7_shadeFrom l D V ad cA  σ35 r41 σ42 hc43 H38.size) (cwV 0 hts gX7_hauls_X7_shadeFrom rfl rfl rfl ⟨rfl, zh_X7_shadeFrom⟩ ⟨Nat.le_of_ble_eq_true rfl, Nat.le_of_ble_eq_true rfl⟩) (zy_pV (ci := 7) Z40 mL_ok mk_0 rfl rfl) rfl rfl hl67_.1 rfl (lv_room (Nat.le_of_ble_eq_true rfl)) dX7_hauls_147 ⟨Nat.le_of_ble_eq_true rfl, Nat.le_of_ble_eq_true rfl⟩) (fun H45 lo46 Z47 => ?_)
            clear Z40 hc43
            refine lv_icmp_ge (tgt := 157) hx hb dX7_hauls_150 (by decide) (fun b48 => ?_) (fun b48 => ?_)
            · have hf49 := zYes hf44 b48
              clear hf44
              refine lv_iconst (v := 1) hx hb dX7_hauls_157 (by decide) ?_
              exact zy_iret X hr hlk Z47 (zEnd hf49) dX7_hauls_158
            · have hf50 := zNot hf44 b48
              clear hf44
              refine lv_iconst (v := (-1)) hx hb dX7_hauls_153 (by decide) ?_
              refine lv_goto (tgt := 158) hx hb dX7_hauls_154 (by decide) ?_
              exact zy_iret X hr hlk Z47 (zEnd hf50) dX7_hauls_158
          · have hf51 := zNot hf31 b32
            clear hf31
            refine lv_iconst (v := 0) hx hb dX7_hauls_136 (by decide) ?_
            refine lv_goto (tgt := 158) hx hb dX7_hauls_137 (by decide) ?_
            exact zy_iret X hr hlk Z67_ (zEnd hf51) dX7_hauls_158
        · have hf52 := zNot hf67_ b30
          clear hf67_
          refine lv_aload_n hx hb dX7_hauls_77 rfl (lv_at hl67_ 0 rfl) ?_
          refine lv_iload_n hx hb dX7_hauls_78 rfl (lv_at hl67_ 2 rfl) ?_
          obtain ⟨r53, σ54, hc55, hf56⟩ := zBd hf52
          clear hf52
          refine zy_ci (r0 := r53) (WS1 := zg_W ML ad cA σ54) (TYS1 := zg_T ML cA) Z67_ (va_runV (As := [.int x2]) (rest := []) X (c_X7_isShaded l D V ad cA x2 σ r53 σ54 hc55 H67_.size) (cwV 1 hts gX7_hauls_X7_isShaded rfl rfl rfl ⟨rfl, zh_X7_isShaded⟩ ⟨Nat.le_of_ble_eq_true rfl, Nat.le_of_ble_eq_true rfl⟩) (zy_pV (ci := 7) Z67_ mL_ok mk_0 rfl rfl) rfl rfl hl67_.1 rfl (lv_room (Nat.le_of_ble_eq_true rfl)) dX7_hauls_79 ⟨Nat.le_of_ble_eq_true rfl, Nat.le_of_ble_eq_true rfl⟩) (fun H57 lo58 Z59 => ?_)
          clear Z67_ hc55
          refine lv_if_ne (tgt := 97) hx hb dX7_hauls_82 (by decide) (fun b60 => ?_) (fun b60 => ?_)
          · have hf61 := zNot hf56 b60
            clear hf56
            exact b97_ x1 x2 σ54 hf61 _ _ _ Z59 (lv_sub hl67_ [0, 1, 2] rfl)
          · have hf62 := zYes hf56 b60
            clear hf56
            refine lv_aload_n hx hb dX7_hauls_85 rfl (lv_at hl67_ 0 rfl) ?_
            refine lv_iload_n hx hb dX7_hauls_86 rfl (lv_at hl67_ 2 rfl) ?_
            obtain ⟨r63, σ64, hc65, hf66⟩ := zBd hf62
            clear hf62
            refine zy_ci (r0 := r63) (WS1 := zg_W ML ad cA σ64) (TYS1 := zg_T ML cA) Z59 (va_runV (As := [.int x2]) (rest := []) X (c_X7_spoils l D V ad cA x2 σ54 r63 σ64 hc65 H57.size) (cwV 1 hts gX7_hauls_X7_spoils rfl rfl rfl ⟨rfl, zh_X7_spoils⟩ ⟨Nat.le_of_ble_eq_true rfl, Nat.le_of_ble_eq_true rfl⟩) (zy_pV (ci := 7) Z59 mL_ok mk_0 rfl rfl) rfl rfl hl67_.1 rfl (lv_room (Nat.le_of_ble_eq_true rfl)) dX7_hauls_87 ⟨Nat.le_of_ble_eq_true rfl, Nat.le_of_ble_eq_true rfl⟩) (fun H67 lo68 Z69 => ?_)
            clear Z59 hc65
            refine lv_if_le (tgt := 97) hx hb dX7_hauls_90 (by decide) (fun b70 => ?_) (fun b70 => ?_)
            · have hf71 := zYes hf66 b70
              clear hf66
              exact b97_ x1 x2 σ64 hf71 _ _ _ Z69 (lv_sub hl67_ [0, 1, 2] rfl)
            · have hf72 := zNot hf66 b70
              clear hf66
              refine lv_iconst (v := 1) hx hb dX7_hauls_93 (by decide) ?_
              refine lv_goto (tgt := 98) hx hb dX7_hauls_94 (by decide) ?_
              exact b98_ x1 x2 1 σ64 hf72 _ _ _ Z69 (lv_sub hl67_ [0, 1, 2] rfl)
  have b43_ : ∀ (y0 : Int32) (σ : zg_S), B_X7_hauls_43 y0 σ = some (r0, σf) → ∀ (H : Heap) (locs : List Loc) (ls : Array Slot), zz_S D V A s (zg_W ML ad cA σ) (zg_T ML cA) H locs → lv_has ls 4 [(0, .ref (ad 0))] → W p l e (headSpec wsX7_hauls { frames := 4, cells := 0, slots := 0, locals := 91 }).room s m (List.toArray [.ref (ad 0)]) below meth c H locs 0 0 (MQ below (va_Qi (fun r (_ : Unit) => r = r0) (fun _ t => zz_B D A (zg_W ML ad cA σf) (zg_T ML cA) t) A) (List.toArray [.ref (ad 0)]) s 0 0 A) (F0 m 43 ls [.int y0]) := by
    intro y0 σ hf43_ H43_ locs43_ ls43_ Z43_ hl43_
    unfold B_X7_hauls_43 at hf43_
    refine lv_istore_n (lv' := [(2, .int y0), (0, .ref (ad 0))]) hx hb dX7_hauls_43 rfl hl43_ (by decide) rfl (fun ls74 hl73 => ?_)
    clear hl43_
    refine lv_aload_n hx hb dX7_hauls_44 rfl (lv_at hl73 1 rfl) ?_
    refine lv_iconst (v := 1) hx hb dX7_hauls_45 (by decide) ?_
    obtain ⟨r75, σ76, hc77, hf78⟩ := zBd hf43_
    clear hf43_
    refine zy_ci (r0 := r75) (WS1 := zg_W ML ad cA σ76) (TYS1 := zg_T ML cA) Z43_ (va_runV (As := [.int 1]) (rest := []) X (c_X7_payIf l D V ad cA 1 σ r75 σ76 hc77 H43_.size) (cwV 1 hts gX7_hauls_X7_payIf rfl rfl rfl ⟨rfl, zh_X7_payIf⟩ ⟨Nat.le_of_ble_eq_true rfl, Nat.le_of_ble_eq_true rfl⟩) (zy_pV (ci := 7) Z43_ mL_ok mk_0 rfl rfl) rfl rfl hl73.1 rfl (lv_room (Nat.le_of_ble_eq_true rfl)) dX7_hauls_46 ⟨Nat.le_of_ble_eq_true rfl, Nat.le_of_ble_eq_true rfl⟩) (fun H79 lo80 Z81 => ?_)
    clear Z43_ hc77
    refine lv_aload_n hx hb dX7_hauls_49 rfl (lv_at hl73 1 rfl) ?_
    refine lv_iload_n hx hb dX7_hauls_50 rfl (lv_at hl73 0 rfl) ?_
    obtain ⟨r82, σ83, hc84, hf85⟩ := zBd hf78
    clear hf78
    refine zy_ci (r0 := r82) (WS1 := zg_W ML ad cA σ83) (TYS1 := zg_T ML cA) Z81 (va_runV (As := [.int y0]) (rest := [.int r75]) X (c_X7_payIf l D V ad cA y0 σ76 r82 σ83 hc84 H79.size) (cwV 1 hts gX7_hauls_X7_payIf rfl rfl rfl ⟨rfl, zh_X7_payIf⟩ ⟨Nat.le_of_ble_eq_true rfl, Nat.le_of_ble_eq_true rfl⟩) (zy_pV (ci := 7) Z81 mL_ok mk_0 rfl rfl) rfl rfl hl73.1 rfl (lv_room (Nat.le_of_ble_eq_true rfl)) dX7_hauls_51 ⟨Nat.le_of_ble_eq_true rfl, Nat.le_of_ble_eq_true rfl⟩) (fun H86 lo87 Z88 => ?_)
    clear Z81 hc84
    refine lv_icmp_le (tgt := 61) hx hb dX7_hauls_54 (by decide) (fun b89 => ?_) (fun b89 => ?_)
    · have hf90 := zYes hf85 b89
      clear hf85
      refine lv_iload_n hx hb dX7_hauls_61 rfl (lv_at hl73 0 rfl) ?_
      exact zy_iret X hr hlk Z88 (zEnd hf90) dX7_hauls_62
    · have hf91 := zNot hf85 b89
      clear hf85
      refine lv_iconst (v := 1) hx hb dX7_hauls_57 (by decide) ?_
      refine lv_goto (tgt := 62) hx hb dX7_hauls_58 (by decide) ?_
      exact zy_iret X hr hlk Z88 (zEnd hf91) dX7_hauls_62
  refine lv_aload_n hx hb dX7_hauls_0 rfl (lv_at hl 0 rfl) ?_
  refine zy_get (v := .ref (ad 1)) X Z mL_ok mk_0 rfl rfl (fun w h => List.mem_cons_of_mem _ (List.mem_append_right _ h)) 0 rfl (zz_m 1 rfl) rfl dX7_hauls_1 ?_
  refine lv_bipush (v := 10) hx hb dX7_hauls_4 (by decide) ?_
  refine zy_ild X Z mL_ok mk_1 ml_1 (zz_in 10 3047 rfl) dX7_hauls_6 ?_
  refine zz_v (v := σ 1 10) rfl ?_
  refine lv_if_ne (tgt := 12) hx hb dX7_hauls_7 (by decide) (fun b92 => ?_) (fun b92 => ?_)
  · have hf93 := zNot hf b92
    clear hf
    refine lv_aload_n hx hb dX7_hauls_12 rfl (lv_at hl 0 rfl) ?_
    refine zy_get (v := .ref (ad 1)) X Z mL_ok mk_0 rfl rfl (fun w h => List.mem_cons_of_mem _ (List.mem_append_right _ h)) 0 rfl (zz_m 1 rfl) rfl dX7_hauls_13 ?_
    refine lv_bipush (v := 10) hx hb dX7_hauls_16 (by decide) ?_
    refine zy_ild X Z mL_ok mk_1 ml_1 (zz_in 10 3047 rfl) dX7_hauls_18 ?_
    refine zz_v (v := σ 1 10) rfl ?_
    refine lv_iconst (v := 2) hx hb dX7_hauls_19 (by decide) ?_
    refine lv_icmp_ne (tgt := 63) hx hb dX7_hauls_20 (by decide) (fun b94 => ?_) (fun b94 => ?_)
    · have hf95 := zNot hf93 b94
      clear hf93
      refine lv_iconst (v := (-1)) hx hb dX7_hauls_63 (by decide) ?_
      refine lv_istore_n (lv' := [(1, .int (-1)), (0, .ref (ad 0))]) hx hb dX7_hauls_64 rfl hl (by decide) rfl (fun ls97 hl96 => ?_)
      clear hl
      refine lv_iconst (v := 0) hx hb dX7_hauls_65 (by decide) ?_
      refine lv_istore_n (lv' := [(2, .int 0), (1, .int (-1)), (0, .ref (ad 0))]) hx hb dX7_hauls_66 rfl hl96 (by decide) rfl (fun ls99 hl98 => ?_)
      clear hl96
      exact b67_ zfu (-1) 0 σ hf95 _ _ _ Z (lv_sub hl98 [2, 1, 0] rfl)
    · have hf100 := zYes hf93 b94
      clear hf93
      refine lv_aload_n hx hb dX7_hauls_23 rfl (lv_at hl 0 rfl) ?_
      refine lv_iconst (v := (-1)) hx hb dX7_hauls_24 (by decide) ?_
      obtain ⟨r101, σ102, hc103, hf104⟩ := zBd hf100
      clear hf100
      refine zy_ci (r0 := r101) (WS1 := zg_W ML ad cA σ102) (TYS1 := zg_T ML cA) Z (va_runV (As := [.int (-1)]) (rest := []) X (c_X7_payIf l D V ad cA (-1) σ r101 σ102 hc103 s.heap.size) (cwV 1 hts gX7_hauls_X7_payIf rfl rfl rfl ⟨rfl, zh_X7_payIf⟩ ⟨Nat.le_of_ble_eq_true rfl, Nat.le_of_ble_eq_true rfl⟩) (zy_pV (ci := 7) Z mL_ok mk_0 rfl rfl) rfl rfl hl.1 rfl (lv_room (Nat.le_of_ble_eq_true rfl)) dX7_hauls_25 ⟨Nat.le_of_ble_eq_true rfl, Nat.le_of_ble_eq_true rfl⟩) (fun H105 lo106 Z107 => ?_)
      clear Z hc103
      refine lv_istore_n (lv' := [(1, .int r101), (0, .ref (ad 0))]) hx hb dX7_hauls_28 rfl hl (by decide) rfl (fun ls109 hl108 => ?_)
      clear hl
      refine lv_iload_n hx hb dX7_hauls_29 rfl (lv_at hl108 0 rfl) ?_
      refine lv_aload_n hx hb dX7_hauls_30 rfl (lv_at hl108 1 rfl) ?_
      refine lv_iconst (v := 0) hx hb dX7_hauls_31 (by decide) ?_
      obtain ⟨r110, σ111, hc112, hf113⟩ := zBd hf104
      clear hf104
      refine zy_ci (r0 := r110) (WS1 := zg_W ML ad cA σ111) (TYS1 := zg_T ML cA) Z107 (va_runV (As := [.int 0]) (rest := [.int r101]) X (c_X7_payIf l D V ad cA 0 σ102 r110 σ111 hc112 H105.size) (cwV 1 hts gX7_hauls_X7_payIf rfl rfl rfl ⟨rfl, zh_X7_payIf⟩ ⟨Nat.le_of_ble_eq_true rfl, Nat.le_of_ble_eq_true rfl⟩) (zy_pV (ci := 7) Z107 mL_ok mk_0 rfl rfl) rfl rfl hl108.1 rfl (lv_room (Nat.le_of_ble_eq_true rfl)) dX7_hauls_32 ⟨Nat.le_of_ble_eq_true rfl, Nat.le_of_ble_eq_true rfl⟩) (fun H114 lo115 Z116 => ?_)
      clear Z107 hc112
      refine lv_icmp_le (tgt := 42) hx hb dX7_hauls_35 (by decide) (fun b117 => ?_) (fun b117 => ?_)
      · have hf118 := zYes hf113 b117
        clear hf113
        refine lv_iconst (v := 0) hx hb dX7_hauls_42 (by decide) ?_
        exact b43_ 0 σ111 hf118 _ _ _ Z116 (lv_sub hl108 [1] rfl)
      · have hf119 := zNot hf113 b117
        clear hf113
        refine lv_iconst (v := (-1)) hx hb dX7_hauls_38 (by decide) ?_
        refine lv_goto (tgt := 43) hx hb dX7_hauls_39 (by decide) ?_
        exact b43_ (-1) σ111 hf119 _ _ _ Z116 (lv_sub hl108 [1] rfl)
  · have hf120 := zYes hf b92
    clear hf
    refine lv_iconst (v := 0) hx hb dX7_hauls_10 (by decide) ?_
    exact zy_iret X hr hlk Z (zEnd hf120) dX7_hauls_11
def f_X7_sets (a1 : Int32) (a2 : Int32) (a3 : Int32) (σ : zg_S) : Option (Int32 × zg_S) := (if zin ((11 + (4 * a1)) + a2) 3047 = true then zlet (zg_up σ 1 (Int32.toNatClampNeg ((11 + (4 * a1)) + a2)) a3) (fun (σ4 : zg_S) => some (0, σ4)) else none)
set_option maxHeartbeats 4000000 in
set_option maxRecDepth 100000 in
theorem c_X7_sets (l : Launch) (D : va_G) (V : zz_V) (ad : Nat → Nat) (cA : Nat → ClassId) (a1 : Int32) (a2 : Int32) (a3 : Int32)  (σ : zg_S) (r0 : Int32) (σf : zg_S) (hf : f_X7_sets a1 a2 a3 σ = some (r0, σf)) : zM_V l yX7_sets wsX7_sets 0 0 D V ML ad cA [.ref (ad 0), .int a1, .int a2, .int a3] σ r0 σf := by
  intro sz
  refine Met.ofW (cc := cX7_sets) (maxL := 4) (ret := none) (by decide) rfl ?_
  intro p e s m args below meth c s₁ B hml hv
  obtain ⟨rfl, hC⟩ := hv
  have hx := B.exec
  have hb := B.bytes
  have hr := B.returns
  have hts := atoms_spec (ws := wsX7_sets) B.pre
  have hown : s.vm.findClass RX7 = some m.cls := findClass_of_methodNamed B.named
  have hlk := B.notSynchronized
  have X : CallFix p m c cX7_sets 4 s _ wsX7_sets RX7 := ⟨hx, hb, hml, hown, hts⟩
  have Z := zz_enter hC
  generalize va_A (zg_W ML ad cA σ) sz = A at Z ⊢
  have hl := lv_entry ([.ref (ad 0), .int a1, .int a2, .int a3]) (n := 4) (Nat.le_of_ble_eq_true rfl)
  rw [lg_entry_eq]
  generalize (lg_sl ([.ref (ad 0), .int a1, .int a2, .int a3]) ++ List.replicate (4 - (lg_sl ([.ref (ad 0), .int a1, .int a2, .int a3])).length) Slot.unset).toArray = ls at hl ⊢
  have hl : lv_has ls 4 [(0, .ref (ad 0)), (1, .int a1), (2, .int a2), (3, .int a3)] := hl
  unfold f_X7_sets at hf
  refine lv_aload_n hx hb dX7_sets_0 rfl (lv_at hl 0 rfl) ?_
  refine zy_get (v := .ref (ad 1)) X Z mL_ok mk_0 rfl rfl (fun w h => List.mem_cons_of_mem _ (List.mem_append_right _ h)) 0 rfl (zz_m 1 rfl) rfl dX7_sets_1 ?_
  refine lv_bipush (v := 11) hx hb dX7_sets_4 (by decide) ?_
  refine lv_iconst (v := 4) hx hb dX7_sets_6 (by decide) ?_
  refine lv_iload_n hx hb dX7_sets_7 rfl (lv_at hl 1 rfl) ?_
  refine lv_imul hx hb dX7_sets_8 ?_
  refine lv_iadd hx hb dX7_sets_9 ?_
  refine lv_iload_n hx hb dX7_sets_10 rfl (lv_at hl 2 rfl) ?_
  refine lv_iadd hx hb dX7_sets_11 ?_
  refine lv_iload_n hx hb dX7_sets_12 rfl (lv_at hl 3 rfl) ?_
  obtain ⟨⟨i1, j2⟩, hf3⟩ := zG hf
  clear hf
  obtain ⟨σ4, es5, hf6⟩ := zLet hf3
  clear hf3
  refine zy_ist (σ' := σ4) X Z mL_ok mk_1 ml_1 i1 es5 dX7_sets_13 (fun H7 lo8 Z9 => ?_)
  clear Z es5
  exact zy_vret X hr hlk Z9 (zEnd hf6) dX7_sets_14
def f_X7_drawn  (σ : zg_S) : Option (Int32 × zg_S) := zlet (((σ 1 6) * 1103515245) + 12345) (fun (y1 : Int32) => zlet (zg_up σ 1 6 y1) (fun (σ4 : zg_S) => some ((Int32.toUInt32 (σ4 1 6) >>> (Int32.toUInt32 8 &&& Int32.toUInt32 31)).toInt32, σ4)))
set_option maxHeartbeats 4000000 in
set_option maxRecDepth 100000 in
theorem c_X7_drawn (l : Launch) (D : va_G) (V : zz_V) (ad : Nat → Nat) (cA : Nat → ClassId)   (σ : zg_S) (r0 : Int32) (σf : zg_S) (hf : f_X7_drawn  σ = some (r0, σf)) : zM_I l yX7_drawn wsX7_drawn 0 0 D V ML ad cA [.ref (ad 0)] σ r0 σf := by
  intro sz
  refine Met.ofW (cc := cX7_drawn) (maxL := 1) (ret := (some .int)) (by decide) rfl ?_
  intro p e s m args below meth c s₁ B hml hv
  obtain ⟨rfl, hC⟩ := hv
  have hx := B.exec
  have hb := B.bytes
  have hr := B.returns
  have hts := atoms_spec (ws := wsX7_drawn) B.pre
  have hown : s.vm.findClass RX7 = some m.cls := findClass_of_methodNamed B.named
  have hlk := B.notSynchronized
  have X : CallFix p m c cX7_drawn 1 s _ wsX7_drawn RX7 := ⟨hx, hb, hml, hown, hts⟩
  have Z := zz_enter hC
  generalize va_A (zg_W ML ad cA σ) sz = A at Z ⊢
  have hl := lv_entry ([.ref (ad 0)]) (n := 1) (Nat.le_of_ble_eq_true rfl)
  rw [lg_entry_eq]
  generalize (lg_sl ([.ref (ad 0)]) ++ List.replicate (1 - (lg_sl ([.ref (ad 0)])).length) Slot.unset).toArray = ls at hl ⊢
  have hl : lv_has ls 1 [(0, .ref (ad 0))] := hl
  unfold f_X7_drawn at hf
  refine lv_aload_n hx hb dX7_drawn_0 rfl (lv_at hl 0 rfl) ?_
  refine zy_get (v := .ref (ad 1)) X Z mL_ok mk_0 rfl rfl (fun w h => List.mem_cons_of_mem _ (List.mem_append_right _ h)) 0 rfl (zz_m 1 rfl) rfl dX7_drawn_1 ?_
  refine lv_bipush (v := 6) hx hb dX7_drawn_4 (by decide) ?_
  refine lv_aload_n hx hb dX7_drawn_6 rfl (lv_at hl 0 rfl) ?_
  refine zy_get (v := .ref (ad 1)) X Z mL_ok mk_0 rfl rfl (fun w h => List.mem_cons_of_mem _ (List.mem_append_right _ h)) 0 rfl (zz_m 1 rfl) rfl dX7_drawn_7 ?_
  refine lv_bipush (v := 6) hx hb dX7_drawn_10 (by decide) ?_
  refine zy_ild X Z mL_ok mk_1 ml_1 (zz_in 6 3047 rfl) dX7_drawn_12 ?_
  refine zz_v (v := σ 1 6) rfl ?_
  refine lv_ldc (v := 1103515245) hx hb hown (hts _ (zz_m 2 rfl)) dX7_drawn_13 ?_
  refine lv_imul hx hb dX7_drawn_15 ?_
  refine lv_sipush (v := 12345) hx hb dX7_drawn_16 (by decide) ?_
  refine lv_iadd hx hb dX7_drawn_19 ?_
  obtain ⟨y1, ey2, hf3⟩ := zLet hf
  clear hf
  refine zz_v (v := y1) ey2.symm ?_
  clear ey2
  obtain ⟨σ4, es5, hf6⟩ := zLet hf3
  clear hf3
  refine zy_ist (σ' := σ4) X Z mL_ok mk_1 ml_1 (zz_in 6 3047 rfl) es5 dX7_drawn_20 (fun H7 lo8 Z9 => ?_)
  clear Z es5
  refine lv_aload_n hx hb dX7_drawn_21 rfl (lv_at hl 0 rfl) ?_
  refine zy_get (v := .ref (ad 1)) X Z9 mL_ok mk_0 rfl rfl (fun w h => List.mem_cons_of_mem _ (List.mem_append_right _ h)) 0 rfl (zz_m 1 rfl) rfl dX7_drawn_22 ?_
  refine lv_bipush (v := 6) hx hb dX7_drawn_25 (by decide) ?_
  refine zy_ild X Z9 mL_ok mk_1 ml_1 (zz_in 6 3047 rfl) dX7_drawn_27 ?_
  refine zz_v (v := σ4 1 6) rfl ?_
  refine lv_bipush (v := 8) hx hb dX7_drawn_28 (by decide) ?_
  refine lv_iushr (v := (Int32.toUInt32 (σ4 1 6) >>> (Int32.toUInt32 8 &&& Int32.toUInt32 31)).toInt32) hx hb dX7_drawn_30 rfl ?_
  exact zy_iret X hr hlk Z9 (zEnd hf6) dX7_drawn_31
def B_X7_goesOnBy_149 (a1 : Int32) (σ : zg_S) : Option (Int32 × zg_S) := zlet (zg_up σ 1 2 ((σ 1 2) + 1)) (fun (σ1 : zg_S) => some (0, σ1))
def B_X7_goesOnBy_147 (a1 : Int32) (y0 : Int32) (y1 : Int32) (y2 : Int32) (σ : zg_S) : Option (Int32 × zg_S) := (if zin y2 3047 = true then zlet (zg_up σ 1 (Int32.toNatClampNeg y2) (y1 + y0)) (fun (σ10 : zg_S) => B_X7_goesOnBy_149 a1 σ10) else none)
def B_X7_goesOnBy_82 (a1 : Int32) (rec17_ : Int32 → zg_S → Option (Int32 × zg_S)) (x2 : Int32) (y0 : Int32) (y1 : Int32) (y2 : Int32) (σ : zg_S) : Option (Int32 × zg_S) := (if zin y2 3047 = true then zlet (zg_up σ 1 (Int32.toNatClampNeg y2) (y1 + y0)) (fun (σ19 : zg_S) => rec17_ (x2 + 1) σ19) else none)
def B_X7_goesOnBy_17 (a1 : Int32) (rec17_ : Int32 → zg_S → Option (Int32 × zg_S)) (x2 : Int32) (σ : zg_S) : Option (Int32 × zg_S) := (if (σ 1 0) ≤ x2 then zbd (f_X7_drawn σ) (fun (r29 : Int32) (σ30 : zg_S) => (if (σ30 1 9) ≤ (r29 - r29 / 100 * 100) then B_X7_goesOnBy_149 a1 σ30 else zbd (f_X7_drawn σ30) (fun (r39 : Int32) (σ40 : zg_S) => zlet ((σ40 1 7) + ((r39 - r39 / 3 * 3) - 1)) (fun (y48 : Int32) => zlet (zg_up σ40 1 7 y48) (fun (σ51 : zg_S) => zbd (f_X7_holds σ51) (fun (r57 : Int32) (σ58 : zg_S) => (if ((r39 - r39 / 3 * 3) - 1) = 0 then B_X7_goesOnBy_147 a1 0 (σ58 1 5) 5 σ58 else B_X7_goesOnBy_147 a1 1 (σ58 1 5) 5 σ58))))))) else zbd (f_X7_spoils x2 σ) (fun (r68 : Int32) (σ69 : zg_S) => zlet (zg_up σ69 1 4 ((σ69 1 4) + r68)) (fun (σ77 : zg_S) => zbd (f_X7_of x2 2 σ77) (fun (r83 : Int32) (σ84 : zg_S) => zbd (f_X7_sets x2 2 (r83 - r68) σ84) (fun (r90 : Int32) (σ91 : zg_S) => zbd (f_X7_isShaded x2 σ91) (fun (r97 : Int32) (σ98 : zg_S) => (if r97 = 0 then B_X7_goesOnBy_82 a1 rec17_ x2 0 (σ91 1 3) 3 σ98 else zbd (f_X7_of x2 3 σ98) (fun (r107 : Int32) (σ108 : zg_S) => B_X7_goesOnBy_82 a1 rec17_ x2 r107 (σ91 1 3) 3 σ108))))))))
def L_X7_goesOnBy_17 (a1 : Int32) : Nat → Int32 → zg_S → Option (Int32 × zg_S) := zfix (fun _ _ => none) (B_X7_goesOnBy_17 a1)
def f_X7_goesOnBy (a1 : Int32) (σ : zg_S) : Option (Int32 × zg_S) := zlet (zg_up σ 1 7 ((σ 1 7) + a1)) (fun (σ114 : zg_S) => zbd (f_X7_holds σ114) (fun (r120 : Int32) (σ121 : zg_S) => L_X7_goesOnBy_17 a1 zfu 0 σ121))
set_option maxHeartbeats 4000000 in
set_option maxRecDepth 100000 in
theorem c_X7_goesOnBy (l : Launch) (D : va_G) (V : zz_V) (ad : Nat → Nat) (cA : Nat → ClassId) (a1 : Int32)  (σ : zg_S) (r0 : Int32) (σf : zg_S) (hf : f_X7_goesOnBy a1 σ = some (r0, σf)) : zM_V l yX7_goesOnBy wsX7_goesOnBy 4 91 D V ML ad cA [.ref (ad 0), .int a1] σ r0 σf := by
  intro sz
  refine Met.ofW (cc := cX7_goesOnBy) (maxL := 4) (ret := none) (by decide) rfl ?_
  intro p e s m args below meth c s₁ B hml hv
  obtain ⟨rfl, hC⟩ := hv
  have hx := B.exec
  have hb := B.bytes
  have hr := B.returns
  have hts := atoms_spec (ws := wsX7_goesOnBy) B.pre
  have hown : s.vm.findClass RX7 = some m.cls := findClass_of_methodNamed B.named
  have hlk := B.notSynchronized
  have X : CallFix p m c cX7_goesOnBy 4 s _ wsX7_goesOnBy RX7 := ⟨hx, hb, hml, hown, hts⟩
  have Z := zz_enter hC
  generalize va_A (zg_W ML ad cA σ) sz = A at Z ⊢
  have hl := lv_entry ([.ref (ad 0), .int a1]) (n := 4) (Nat.le_of_ble_eq_true rfl)
  rw [lg_entry_eq]
  generalize (lg_sl ([.ref (ad 0), .int a1]) ++ List.replicate (4 - (lg_sl ([.ref (ad 0), .int a1])).length) Slot.unset).toArray = ls at hl ⊢
  have hl : lv_has ls 4 [(0, .ref (ad 0)), (1, .int a1)] := hl
  unfold f_X7_goesOnBy at hf
  have b17_ : ∀ (k17_ : Nat) (x2 : Int32) (σ : zg_S), L_X7_goesOnBy_17 a1 k17_ x2 σ = some (r0, σf) → ∀ (H : Heap) (locs : List Loc) (ls : Array Slot), zz_S D V A s (zg_W ML ad cA σ) (zg_T ML cA) H locs → lv_has ls 4 [(0, .ref (ad 0)), (2, .int x2)] → W p l e (headSpec wsX7_goesOnBy { frames := 4, cells := 0, slots := 0, locals := 91 }).room s m (List.toArray [.ref (ad 0), .int a1]) below meth c H locs 0 0 (MQ below (va_Qv (fun (_ : Unit) => True) (fun _ t => zz_B D A (zg_W ML ad cA σf) (zg_T ML cA) t) A) (List.toArray [.ref (ad 0), .int a1]) s 0 0 A) (F0 m 17 ls []) := by
    intro k17_
    induction k17_ with
    | zero =>
        intro x2 σ hf17_ H17_ locs17_ ls17_ Z17_ hl17_
        exact zNone hf17_
    | succ k17_ ih17_ =>
        intro x2 σ hf17_ H17_ locs17_ ls17_ Z17_ hl17_
        replace hf17_ : B_X7_goesOnBy_17 a1 (L_X7_goesOnBy_17 a1 k17_) x2 σ = some (r0, σf) := hf17_
        unfold B_X7_goesOnBy_17 at hf17_
        have b149_ : ∀ (σ : zg_S), B_X7_goesOnBy_149 a1  σ = some (r0, σf) → ∀ (H : Heap) (locs : List Loc) (ls : Array Slot), zz_S D V A s (zg_W ML ad cA σ) (zg_T ML cA) H locs → lv_has ls 4 [(0, .ref (ad 0))] → W p l e (headSpec wsX7_goesOnBy { frames := 4, cells := 0, slots := 0, locals := 91 }).room s m (List.toArray [.ref (ad 0), .int a1]) below meth c H locs 0 0 (MQ below (va_Qv (fun (_ : Unit) => True) (fun _ t => zz_B D A (zg_W ML ad cA σf) (zg_T ML cA) t) A) (List.toArray [.ref (ad 0), .int a1]) s 0 0 A) (F0 m 149 ls []) := by
          intro σ hf149_ H149_ locs149_ ls149_ Z149_ hl149_
          unfold B_X7_goesOnBy_149 at hf149_
          refine lv_aload_n hx hb dX7_goesOnBy_149 rfl (lv_at hl149_ 0 rfl) ?_
          refine zy_get (v := .ref (ad 1)) X Z149_ mL_ok mk_0 rfl rfl (fun w h => List.mem_cons_of_mem _ (List.mem_append_right _ h)) 0 rfl (zz_m 1 rfl) rfl dX7_goesOnBy_150 ?_
          refine lv_iconst (v := 2) hx hb dX7_goesOnBy_153 (by decide) ?_
          refine lv_dup2_11 hx hb dX7_goesOnBy_154 rfl rfl ?_
          refine zy_ild X Z149_ mL_ok mk_1 ml_1 (zz_in 2 3047 rfl) dX7_goesOnBy_155 ?_
          refine zz_v (v := σ 1 2) rfl ?_
          refine lv_iconst (v := 1) hx hb dX7_goesOnBy_156 (by decide) ?_
          refine lv_iadd hx hb dX7_goesOnBy_157 ?_
          obtain ⟨σ1, es2, hf3⟩ := zLet hf149_
          clear hf149_
          refine zy_ist (σ' := σ1) X Z149_ mL_ok mk_1 ml_1 (zz_in 2 3047 rfl) es2 dX7_goesOnBy_158 (fun H4 lo5 Z6 => ?_)
          clear Z149_ es2
          exact zy_vret X hr hlk Z6 (zEnd hf3) dX7_goesOnBy_159
        have b147_ : ∀ (y0 : Int32) (y1 : Int32) (y2 : Int32) (σ : zg_S), B_X7_goesOnBy_147 a1 y0 y1 y2 σ = some (r0, σf) → ∀ (H : Heap) (locs : List Loc) (ls : Array Slot), zz_S D V A s (zg_W ML ad cA σ) (zg_T ML cA) H locs → lv_has ls 4 [(0, .ref (ad 0))] → W p l e (headSpec wsX7_goesOnBy { frames := 4, cells := 0, slots := 0, locals := 91 }).room s m (List.toArray [.ref (ad 0), .int a1]) below meth c H locs 0 0 (MQ below (va_Qv (fun (_ : Unit) => True) (fun _ t => zz_B D A (zg_W ML ad cA σf) (zg_T ML cA) t) A) (List.toArray [.ref (ad 0), .int a1]) s 0 0 A) (F0 m 147 ls [.int y0, .int y1, .int y2, .ref (ad 1)]) := by
          intro y0 y1 y2 σ hf147_ H147_ locs147_ ls147_ Z147_ hl147_
          unfold B_X7_goesOnBy_147 at hf147_
          refine lv_iadd hx hb dX7_goesOnBy_147 ?_
          obtain ⟨⟨i7, j8⟩, hf9⟩ := zG hf147_
          clear hf147_
          obtain ⟨σ10, es11, hf12⟩ := zLet hf9
          clear hf9
          refine zy_ist (σ' := σ10) X Z147_ mL_ok mk_1 ml_1 i7 es11 dX7_goesOnBy_148 (fun H13 lo14 Z15 => ?_)
          clear Z147_ es11
          exact b149_ σ10 hf12 _ _ _ Z15 (lv_sub hl147_ [0] rfl)
        have b82_ : ∀ (x2 : Int32) (y0 : Int32) (y1 : Int32) (y2 : Int32) (σ : zg_S), B_X7_goesOnBy_82 a1 (L_X7_goesOnBy_17 a1 k17_) x2 y0 y1 y2 σ = some (r0, σf) → ∀ (H : Heap) (locs : List Loc) (ls : Array Slot), zz_S D V A s (zg_W ML ad cA σ) (zg_T ML cA) H locs → lv_has ls 4 [(0, .ref (ad 0)), (2, .int x2)] → W p l e (headSpec wsX7_goesOnBy { frames := 4, cells := 0, slots := 0, locals := 91 }).room s m (List.toArray [.ref (ad 0), .int a1]) below meth c H locs 0 0 (MQ below (va_Qv (fun (_ : Unit) => True) (fun _ t => zz_B D A (zg_W ML ad cA σf) (zg_T ML cA) t) A) (List.toArray [.ref (ad 0), .int a1]) s 0 0 A) (F0 m 82 ls [.int y0, .int y1, .int y2, .ref (ad 1)]) := by
          intro x2 y0 y1 y2 σ hf82_ H82_ locs82_ ls82_ Z82_ hl82_
          unfold B_X7_goesOnBy_82 at hf82_
          refine lv_iadd hx hb dX7_goesOnBy_82 ?_
          obtain ⟨⟨i16, j17⟩, hf18⟩ := zG hf82_
          clear hf82_
          obtain ⟨σ19, es20, hf21⟩ := zLet hf18
          clear hf18
          refine zy_ist (σ' := σ19) X Z82_ mL_ok mk_1 ml_1 i16 es20 dX7_goesOnBy_83 (fun H22 lo23 Z24 => ?_)
          clear Z82_ es20
          refine lv_iinc (v := (x2 + 1)) (lv' := [(2, .int (x2 + 1)), (0, .ref (ad 0))]) hx hb dX7_goesOnBy_84 hl82_ (k := 1) rfl rfl (by decide) rfl (fun ls26 hl25 => ?_)
          clear hl82_
          refine lv_goto (tgt := 17) hx hb dX7_goesOnBy_87 (by decide) ?_
          exact ih17_ (x2 + 1) σ19 hf21 _ _ _ Z24 (lv_sub hl25 [1, 0] rfl)
        refine lv_iload_n hx hb dX7_goesOnBy_17 rfl (lv_at hl17_ 1 rfl) ?_
        refine lv_aload_n hx hb dX7_goesOnBy_18 rfl (lv_at hl17_ 0 rfl) ?_
        refine zy_get (v := .ref (ad 1)) X Z17_ mL_ok mk_0 rfl rfl (fun w h => List.mem_cons_of_mem _ (List.mem_append_right _ h)) 0 rfl (zz_m 1 rfl) rfl dX7_goesOnBy_19 ?_
        refine lv_iconst (v := 0) hx hb dX7_goesOnBy_22 (by decide) ?_
        refine zy_ild X Z17_ mL_ok mk_1 ml_1 (zz_in 0 3047 rfl) dX7_goesOnBy_23 ?_
        refine zz_v (v := σ 1 0) rfl ?_
        refine lv_icmp_ge (tgt := 90) hx hb dX7_goesOnBy_24 (by decide) (fun b27 => ?_) (fun b27 => ?_)
        · have hf28 := zYes hf17_ b27
          clear hf17_
          refine lv_aload_n hx hb dX7_goesOnBy_90 rfl (lv_at hl17_ 0 rfl) ?_
          obtain ⟨r29, σ30, hc31, hf32⟩ := zBd hf28
          clear hf28
          refine zy_ci (r0 := r29) (WS1 := zg_W ML ad cA σ30) (TYS1 := zg_T ML cA) Z17_ (va_runV (As := []) (rest := []) X (c_X7_drawn l D V ad cA  σ r29 σ30 hc31 H17_.size) (cwV 0 hts gX7_goesOnBy_X7_drawn rfl rfl rfl ⟨rfl, zh_X7_drawn⟩ ⟨Nat.le_of_ble_eq_true rfl, Nat.le_of_ble_eq_true rfl⟩) (zy_pV (ci := 7) Z17_ mL_ok mk_0 rfl rfl) rfl rfl hl17_.1 rfl (lv_room (Nat.le_of_ble_eq_true rfl)) dX7_goesOnBy_91 ⟨Nat.le_of_ble_eq_true rfl, Nat.le_of_ble_eq_true rfl⟩) (fun H33 lo34 Z35 => ?_)
          clear Z17_ hc31
          refine lv_bipush (v := 100) hx hb dX7_goesOnBy_94 (by decide) ?_
          refine lv_irem hx hb dX7_goesOnBy_96 (by decide) ?_
          refine lv_aload_n hx hb dX7_goesOnBy_97 rfl (lv_at hl17_ 0 rfl) ?_
          refine zy_get (v := .ref (ad 1)) X Z35 mL_ok mk_0 rfl rfl (fun w h => List.mem_cons_of_mem _ (List.mem_append_right _ h)) 0 rfl (zz_m 1 rfl) rfl dX7_goesOnBy_98 ?_
          refine lv_bipush (v := 9) hx hb dX7_goesOnBy_101 (by decide) ?_
          refine zy_ild X Z35 mL_ok mk_1 ml_1 (zz_in 9 3047 rfl) dX7_goesOnBy_103 ?_
          refine zz_v (v := σ30 1 9) rfl ?_
          refine lv_icmp_ge (tgt := 149) hx hb dX7_goesOnBy_104 (by decide) (fun b36 => ?_) (fun b36 => ?_)
          · have hf37 := zYes hf32 b36
            clear hf32
            exact b149_ σ30 hf37 _ _ _ Z35 (lv_sub hl17_ [0] rfl)
          · have hf38 := zNot hf32 b36
            clear hf32
            refine lv_aload_n hx hb dX7_goesOnBy_107 rfl (lv_at hl17_ 0 rfl) ?_
            obtain ⟨r39, σ40, hc41, hf42⟩ := zBd hf38
            clear hf38
            refine zy_ci (r0 := r39) (WS1 := zg_W ML ad cA σ40) (TYS1 := zg_T ML cA) Z35 (va_runV (As := []) (rest := []) X (c_X7_drawn l D V ad cA  σ30 r39 σ40 hc41 H33.size) (cwV 0 hts gX7_goesOnBy_X7_drawn rfl rfl rfl ⟨rfl, zh_X7_drawn⟩ ⟨Nat.le_of_ble_eq_true rfl, Nat.le_of_ble_eq_true rfl⟩) (zy_pV (ci := 7) Z35 mL_ok mk_0 rfl rfl) rfl rfl hl17_.1 rfl (lv_room (Nat.le_of_ble_eq_true rfl)) dX7_goesOnBy_108 ⟨Nat.le_of_ble_eq_true rfl, Nat.le_of_ble_eq_true rfl⟩) (fun H43 lo44 Z45 => ?_)
            clear Z35 hc41
            refine lv_iconst (v := 3) hx hb dX7_goesOnBy_111 (by decide) ?_
            refine lv_irem hx hb dX7_goesOnBy_112 (by decide) ?_
            refine lv_iconst (v := 1) hx hb dX7_goesOnBy_113 (by decide) ?_
            refine lv_isub hx hb dX7_goesOnBy_114 ?_
            refine lv_istore_n (lv' := [(2, .int ((r39 - r39 / 3 * 3) - 1)), (0, .ref (ad 0))]) hx hb dX7_goesOnBy_115 rfl hl17_ (by decide) rfl (fun ls47 hl46 => ?_)
            clear hl17_
            refine lv_aload_n hx hb dX7_goesOnBy_116 rfl (lv_at hl46 1 rfl) ?_
            refine zy_get (v := .ref (ad 1)) X Z45 mL_ok mk_0 rfl rfl (fun w h => List.mem_cons_of_mem _ (List.mem_append_right _ h)) 0 rfl (zz_m 1 rfl) rfl dX7_goesOnBy_117 ?_
            refine lv_bipush (v := 7) hx hb dX7_goesOnBy_120 (by decide) ?_
            refine lv_dup2_11 hx hb dX7_goesOnBy_122 rfl rfl ?_
            refine zy_ild X Z45 mL_ok mk_1 ml_1 (zz_in 7 3047 rfl) dX7_goesOnBy_123 ?_
            refine zz_v (v := σ40 1 7) rfl ?_
            refine lv_iload_n hx hb dX7_goesOnBy_124 rfl (lv_at hl46 0 rfl) ?_
            refine lv_iadd hx hb dX7_goesOnBy_125 ?_
            obtain ⟨y48, ey49, hf50⟩ := zLet hf42
            clear hf42
            refine zz_v (v := y48) ey49.symm ?_
            clear ey49
            obtain ⟨σ51, es52, hf53⟩ := zLet hf50
            clear hf50
            refine zy_ist (σ' := σ51) X Z45 mL_ok mk_1 ml_1 (zz_in 7 3047 rfl) es52 dX7_goesOnBy_126 (fun H54 lo55 Z56 => ?_)
            clear Z45 es52
            refine lv_aload_n hx hb dX7_goesOnBy_127 rfl (lv_at hl46 1 rfl) ?_
            obtain ⟨r57, σ58, hc59, hf60⟩ := zBd hf53
            clear hf53
            refine zy_cv (WS1 := zg_W ML ad cA σ58) (TYS1 := zg_T ML cA) Z56 (va_runV (As := []) (rest := []) X (c_X7_holds l D V ad cA  σ51 r57 σ58 hc59 H54.size) (cwV 0 hts gX7_goesOnBy_X7_holds rfl rfl rfl ⟨rfl, zh_X7_holds⟩ ⟨Nat.le_of_ble_eq_true rfl, Nat.le_of_ble_eq_true rfl⟩) (zy_pV (ci := 7) Z56 mL_ok mk_0 rfl rfl) rfl rfl hl46.1 rfl (lv_room (Nat.le_of_ble_eq_true rfl)) dX7_goesOnBy_128 ⟨Nat.le_of_ble_eq_true rfl, Nat.le_of_ble_eq_true rfl⟩) (fun H61 lo62 Z63 => ?_)
            clear Z56 hc59
            refine lv_aload_n hx hb dX7_goesOnBy_131 rfl (lv_at hl46 1 rfl) ?_
            refine zy_get (v := .ref (ad 1)) X Z63 mL_ok mk_0 rfl rfl (fun w h => List.mem_cons_of_mem _ (List.mem_append_right _ h)) 0 rfl (zz_m 1 rfl) rfl dX7_goesOnBy_132 ?_
            refine lv_iconst (v := 5) hx hb dX7_goesOnBy_135 (by decide) ?_
            refine lv_dup2_11 hx hb dX7_goesOnBy_136 rfl rfl ?_
            refine zy_ild X Z63 mL_ok mk_1 ml_1 (zz_in 5 3047 rfl) dX7_goesOnBy_137 ?_
            refine zz_v (v := σ58 1 5) rfl ?_
            refine lv_iload_n hx hb dX7_goesOnBy_138 rfl (lv_at hl46 0 rfl) ?_
            refine lv_if_ne (tgt := 146) hx hb dX7_goesOnBy_139 (by decide) (fun b64 => ?_) (fun b64 => ?_)
            · have hf65 := zNot hf60 b64
              clear hf60
              refine lv_iconst (v := 1) hx hb dX7_goesOnBy_146 (by decide) ?_
              exact b147_ 1 (σ58 1 5) 5 σ58 hf65 _ _ _ Z63 (lv_sub hl46 [1] rfl)
            · have hf66 := zYes hf60 b64
              clear hf60
              refine lv_iconst (v := 0) hx hb dX7_goesOnBy_142 (by decide) ?_
              refine lv_goto (tgt := 147) hx hb dX7_goesOnBy_143 (by decide) ?_
              exact b147_ 0 (σ58 1 5) 5 σ58 hf66 _ _ _ Z63 (lv_sub hl46 [1] rfl)
        · have hf67 := zNot hf17_ b27
          clear hf17_
          refine lv_aload_n hx hb dX7_goesOnBy_27 rfl (lv_at hl17_ 0 rfl) ?_
          refine lv_iload_n hx hb dX7_goesOnBy_28 rfl (lv_at hl17_ 1 rfl) ?_
          obtain ⟨r68, σ69, hc70, hf71⟩ := zBd hf67
          clear hf67
          refine zy_ci (r0 := r68) (WS1 := zg_W ML ad cA σ69) (TYS1 := zg_T ML cA) Z17_ (va_runV (As := [.int x2]) (rest := []) X (c_X7_spoils l D V ad cA x2 σ r68 σ69 hc70 H17_.size) (cwV 1 hts gX7_goesOnBy_X7_spoils rfl rfl rfl ⟨rfl, zh_X7_spoils⟩ ⟨Nat.le_of_ble_eq_true rfl, Nat.le_of_ble_eq_true rfl⟩) (zy_pV (ci := 7) Z17_ mL_ok mk_0 rfl rfl) rfl rfl hl17_.1 rfl (lv_room (Nat.le_of_ble_eq_true rfl)) dX7_goesOnBy_29 ⟨Nat.le_of_ble_eq_true rfl, Nat.le_of_ble_eq_true rfl⟩) (fun H72 lo73 Z74 => ?_)
          clear Z17_ hc70
          refine lv_istore_n (lv' := [(3, .int r68), (0, .ref (ad 0)), (2, .int x2)]) hx hb dX7_goesOnBy_32 rfl hl17_ (by decide) rfl (fun ls76 hl75 => ?_)
          clear hl17_
          refine lv_aload_n hx hb dX7_goesOnBy_33 rfl (lv_at hl75 1 rfl) ?_
          refine zy_get (v := .ref (ad 1)) X Z74 mL_ok mk_0 rfl rfl (fun w h => List.mem_cons_of_mem _ (List.mem_append_right _ h)) 0 rfl (zz_m 1 rfl) rfl dX7_goesOnBy_34 ?_
          refine lv_iconst (v := 4) hx hb dX7_goesOnBy_37 (by decide) ?_
          refine lv_dup2_11 hx hb dX7_goesOnBy_38 rfl rfl ?_
          refine zy_ild X Z74 mL_ok mk_1 ml_1 (zz_in 4 3047 rfl) dX7_goesOnBy_39 ?_
          refine zz_v (v := σ69 1 4) rfl ?_
          refine lv_iload_n hx hb dX7_goesOnBy_40 rfl (lv_at hl75 0 rfl) ?_
          refine lv_iadd hx hb dX7_goesOnBy_41 ?_
          obtain ⟨σ77, es78, hf79⟩ := zLet hf71
          clear hf71
          refine zy_ist (σ' := σ77) X Z74 mL_ok mk_1 ml_1 (zz_in 4 3047 rfl) es78 dX7_goesOnBy_42 (fun H80 lo81 Z82 => ?_)
          clear Z74 es78
          refine lv_aload_n hx hb dX7_goesOnBy_43 rfl (lv_at hl75 1 rfl) ?_
          refine lv_iload_n hx hb dX7_goesOnBy_44 rfl (lv_at hl75 2 rfl) ?_
          refine lv_iconst (v := 2) hx hb dX7_goesOnBy_45 (by decide) ?_
          refine lv_aload_n hx hb dX7_goesOnBy_46 rfl (lv_at hl75 1 rfl) ?_
          refine lv_iload_n hx hb dX7_goesOnBy_47 rfl (lv_at hl75 2 rfl) ?_
          refine lv_iconst (v := 2) hx hb dX7_goesOnBy_48 (by decide) ?_
          obtain ⟨r83, σ84, hc85, hf86⟩ := zBd hf79
          clear hf79
          refine zy_ci (r0 := r83) (WS1 := zg_W ML ad cA σ84) (TYS1 := zg_T ML cA) Z82 (va_runV (As := [.int x2, .int 2]) (rest := [.int 2, .int x2, .ref (ad 0)]) X (c_X7_of l D V ad cA x2 2 σ77 r83 σ84 hc85 H80.size) (cwV 2 hts gX7_goesOnBy_X7_of rfl rfl rfl ⟨rfl, zh_X7_of⟩ ⟨Nat.le_of_ble_eq_true rfl, Nat.le_of_ble_eq_true rfl⟩) (zy_pV (ci := 7) Z82 mL_ok mk_0 rfl rfl) rfl rfl hl75.1 rfl (lv_room (Nat.le_of_ble_eq_true rfl)) dX7_goesOnBy_49 ⟨Nat.le_of_ble_eq_true rfl, Nat.le_of_ble_eq_true rfl⟩) (fun H87 lo88 Z89 => ?_)
          clear Z82 hc85
          refine lv_iload_n hx hb dX7_goesOnBy_52 rfl (lv_at hl75 0 rfl) ?_
          refine lv_isub hx hb dX7_goesOnBy_53 ?_
          obtain ⟨r90, σ91, hc92, hf93⟩ := zBd hf86
          clear hf86
          refine zy_cv (WS1 := zg_W ML ad cA σ91) (TYS1 := zg_T ML cA) Z89 (va_runV (As := [.int x2, .int 2, .int (r83 - r68)]) (rest := []) X (c_X7_sets l D V ad cA x2 2 (r83 - r68) σ84 r90 σ91 hc92 H87.size) (cwV 3 hts gX7_goesOnBy_X7_sets rfl rfl rfl ⟨rfl, zh_X7_sets⟩ ⟨Nat.le_of_ble_eq_true rfl, Nat.le_of_ble_eq_true rfl⟩) (zy_pV (ci := 7) Z89 mL_ok mk_0 rfl rfl) rfl rfl hl75.1 rfl (lv_room (Nat.le_of_ble_eq_true rfl)) dX7_goesOnBy_54 ⟨Nat.le_of_ble_eq_true rfl, Nat.le_of_ble_eq_true rfl⟩) (fun H94 lo95 Z96 => ?_)
          clear Z89 hc92
          refine lv_aload_n hx hb dX7_goesOnBy_57 rfl (lv_at hl75 1 rfl) ?_
          refine zy_get (v := .ref (ad 1)) X Z96 mL_ok mk_0 rfl rfl (fun w h => List.mem_cons_of_mem _ (List.mem_append_right _ h)) 0 rfl (zz_m 1 rfl) rfl dX7_goesOnBy_58 ?_
          refine lv_iconst (v := 3) hx hb dX7_goesOnBy_61 (by decide) ?_
          refine lv_dup2_11 hx hb dX7_goesOnBy_62 rfl rfl ?_
          refine zy_ild X Z96 mL_ok mk_1 ml_1 (zz_in 3 3047 rfl) dX7_goesOnBy_63 ?_
          refine zz_v (v := σ91 1 3) rfl ?_
          refine lv_aload_n hx hb dX7_goesOnBy_64 rfl (lv_at hl75 1 rfl) ?_
          refine lv_iload_n hx hb dX7_goesOnBy_65 rfl (lv_at hl75 2 rfl) ?_
          obtain ⟨r97, σ98, hc99, hf100⟩ := zBd hf93
          clear hf93
          refine zy_ci (r0 := r97) (WS1 := zg_W ML ad cA σ98) (TYS1 := zg_T ML cA) Z96 (va_runV (As := [.int x2]) (rest := [.int (σ91 1 3), .int 3, .ref (ad 1)]) X (c_X7_isShaded l D V ad cA x2 σ91 r97 σ98 hc99 H94.size) (cwV 1 hts gX7_goesOnBy_X7_isShaded rfl rfl rfl ⟨rfl, zh_X7_isShaded⟩ ⟨Nat.le_of_ble_eq_true rfl, Nat.le_of_ble_eq_true rfl⟩) (zy_pV (ci := 7) Z96 mL_ok mk_0 rfl rfl) rfl rfl hl75.1 rfl (lv_room (Nat.le_of_ble_eq_true rfl)) dX7_goesOnBy_66 ⟨Nat.le_of_ble_eq_true rfl, Nat.le_of_ble_eq_true rfl⟩) (fun H101 lo102 Z103 => ?_)
          clear Z96 hc99
          refine lv_if_eq (tgt := 81) hx hb dX7_goesOnBy_69 (by decide) (fun b104 => ?_) (fun b104 => ?_)
          · have hf105 := zYes hf100 b104
            clear hf100
            refine lv_iconst (v := 0) hx hb dX7_goesOnBy_81 (by decide) ?_
            exact b82_ x2 0 (σ91 1 3) 3 σ98 hf105 _ _ _ Z103 (lv_sub hl75 [1, 2] rfl)
          · have hf106 := zNot hf100 b104
            clear hf100
            refine lv_aload_n hx hb dX7_goesOnBy_72 rfl (lv_at hl75 1 rfl) ?_
            refine lv_iload_n hx hb dX7_goesOnBy_73 rfl (lv_at hl75 2 rfl) ?_
            refine lv_iconst (v := 3) hx hb dX7_goesOnBy_74 (by decide) ?_
            obtain ⟨r107, σ108, hc109, hf110⟩ := zBd hf106
            clear hf106
            refine zy_ci (r0 := r107) (WS1 := zg_W ML ad cA σ108) (TYS1 := zg_T ML cA) Z103 (va_runV (As := [.int x2, .int 3]) (rest := [.int (σ91 1 3), .int 3, .ref (ad 1)]) X (c_X7_of l D V ad cA x2 3 σ98 r107 σ108 hc109 H101.size) (cwV 2 hts gX7_goesOnBy_X7_of rfl rfl rfl ⟨rfl, zh_X7_of⟩ ⟨Nat.le_of_ble_eq_true rfl, Nat.le_of_ble_eq_true rfl⟩) (zy_pV (ci := 7) Z103 mL_ok mk_0 rfl rfl) rfl rfl hl75.1 rfl (lv_room (Nat.le_of_ble_eq_true rfl)) dX7_goesOnBy_75 ⟨Nat.le_of_ble_eq_true rfl, Nat.le_of_ble_eq_true rfl⟩) (fun H111 lo112 Z113 => ?_)
            clear Z103 hc109
            refine lv_goto (tgt := 82) hx hb dX7_goesOnBy_78 (by decide) ?_
            exact b82_ x2 r107 (σ91 1 3) 3 σ108 hf110 _ _ _ Z113 (lv_sub hl75 [1, 2] rfl)
  refine lv_aload_n hx hb dX7_goesOnBy_0 rfl (lv_at hl 0 rfl) ?_
  refine zy_get (v := .ref (ad 1)) X Z mL_ok mk_0 rfl rfl (fun w h => List.mem_cons_of_mem _ (List.mem_append_right _ h)) 0 rfl (zz_m 1 rfl) rfl dX7_goesOnBy_1 ?_
  refine lv_bipush (v := 7) hx hb dX7_goesOnBy_4 (by decide) ?_
  refine lv_dup2_11 hx hb dX7_goesOnBy_6 rfl rfl ?_
  refine zy_ild X Z mL_ok mk_1 ml_1 (zz_in 7 3047 rfl) dX7_goesOnBy_7 ?_
  refine zz_v (v := σ 1 7) rfl ?_
  refine lv_iload_n hx hb dX7_goesOnBy_8 rfl (lv_at hl 1 rfl) ?_
  refine lv_iadd hx hb dX7_goesOnBy_9 ?_
  obtain ⟨σ114, es115, hf116⟩ := zLet hf
  clear hf
  refine zy_ist (σ' := σ114) X Z mL_ok mk_1 ml_1 (zz_in 7 3047 rfl) es115 dX7_goesOnBy_10 (fun H117 lo118 Z119 => ?_)
  clear Z es115
  refine lv_aload_n hx hb dX7_goesOnBy_11 rfl (lv_at hl 0 rfl) ?_
  obtain ⟨r120, σ121, hc122, hf123⟩ := zBd hf116
  clear hf116
  refine zy_cv (WS1 := zg_W ML ad cA σ121) (TYS1 := zg_T ML cA) Z119 (va_runV (As := []) (rest := []) X (c_X7_holds l D V ad cA  σ114 r120 σ121 hc122 H117.size) (cwV 0 hts gX7_goesOnBy_X7_holds rfl rfl rfl ⟨rfl, zh_X7_holds⟩ ⟨Nat.le_of_ble_eq_true rfl, Nat.le_of_ble_eq_true rfl⟩) (zy_pV (ci := 7) Z119 mL_ok mk_0 rfl rfl) rfl rfl hl.1 rfl (lv_room (Nat.le_of_ble_eq_true rfl)) dX7_goesOnBy_12 ⟨Nat.le_of_ble_eq_true rfl, Nat.le_of_ble_eq_true rfl⟩) (fun H124 lo125 Z126 => ?_)
  clear Z119 hc122
  refine lv_iconst (v := 0) hx hb dX7_goesOnBy_15 (by decide) ?_
  refine lv_istore_n (lv' := [(2, .int 0), (0, .ref (ad 0)), (1, .int a1)]) hx hb dX7_goesOnBy_16 rfl hl (by decide) rfl (fun ls128 hl127 => ?_)
  clear hl
  exact b17_ zfu 0 σ121 hf123 _ _ _ Z126 (lv_sub hl127 [1, 0] rfl)
def f_X7_goesOn  (σ : zg_S) : Option (Int32 × zg_S) := zbd (f_X7_hauls σ) (fun (r1 : Int32) (σ2 : zg_S) => zbd (f_X7_goesOnBy r1 σ2) (fun (r8 : Int32) (σ9 : zg_S) => some (0, σ9)))
set_option maxHeartbeats 4000000 in
set_option maxRecDepth 100000 in
theorem c_X7_goesOn (l : Launch) (D : va_G) (V : zz_V) (ad : Nat → Nat) (cA : Nat → ClassId)   (σ : zg_S) (r0 : Int32) (σf : zg_S) (hf : f_X7_goesOn  σ = some (r0, σf)) : zM_V l yX7_goesOn wsX7_goesOn 5 114 D V ML ad cA [.ref (ad 0)] σ r0 σf := by
  intro sz
  refine Met.ofW (cc := cX7_goesOn) (maxL := 1) (ret := none) (by decide) rfl ?_
  intro p e s m args below meth c s₁ B hml hv
  obtain ⟨rfl, hC⟩ := hv
  have hx := B.exec
  have hb := B.bytes
  have hr := B.returns
  have hts := atoms_spec (ws := wsX7_goesOn) B.pre
  have hown : s.vm.findClass RX7 = some m.cls := findClass_of_methodNamed B.named
  have hlk := B.notSynchronized
  have X : CallFix p m c cX7_goesOn 1 s _ wsX7_goesOn RX7 := ⟨hx, hb, hml, hown, hts⟩
  have Z := zz_enter hC
  generalize va_A (zg_W ML ad cA σ) sz = A at Z ⊢
  have hl := lv_entry ([.ref (ad 0)]) (n := 1) (Nat.le_of_ble_eq_true rfl)
  rw [lg_entry_eq]
  generalize (lg_sl ([.ref (ad 0)]) ++ List.replicate (1 - (lg_sl ([.ref (ad 0)])).length) Slot.unset).toArray = ls at hl ⊢
  have hl : lv_has ls 1 [(0, .ref (ad 0))] := hl
  unfold f_X7_goesOn at hf
  refine lv_aload_n hx hb dX7_goesOn_0 rfl (lv_at hl 0 rfl) ?_
  refine lv_aload_n hx hb dX7_goesOn_1 rfl (lv_at hl 0 rfl) ?_
  obtain ⟨r1, σ2, hc3, hf4⟩ := zBd hf
  clear hf
  refine zy_ci (r0 := r1) (WS1 := zg_W ML ad cA σ2) (TYS1 := zg_T ML cA) Z (va_runV (As := []) (rest := [.ref (ad 0)]) X (c_X7_hauls l D V ad cA  σ r1 σ2 hc3 s.heap.size) (cwV 0 hts gX7_goesOn_X7_hauls rfl rfl rfl ⟨rfl, zh_X7_hauls⟩ ⟨Nat.le_of_ble_eq_true rfl, Nat.le_of_ble_eq_true rfl⟩) (zy_pV (ci := 7) Z mL_ok mk_0 rfl rfl) rfl rfl hl.1 rfl (lv_room (Nat.le_of_ble_eq_true rfl)) dX7_goesOn_2 ⟨Nat.le_of_ble_eq_true rfl, Nat.le_of_ble_eq_true rfl⟩) (fun H5 lo6 Z7 => ?_)
  clear Z hc3
  obtain ⟨r8, σ9, hc10, hf11⟩ := zBd hf4
  clear hf4
  refine zy_cv (WS1 := zg_W ML ad cA σ9) (TYS1 := zg_T ML cA) Z7 (va_runV (As := [.int r1]) (rest := []) X (c_X7_goesOnBy l D V ad cA r1 σ2 r8 σ9 hc10 H5.size) (cwV 1 hts gX7_goesOn_X7_goesOnBy rfl rfl rfl ⟨rfl, zh_X7_goesOnBy⟩ ⟨Nat.le_of_ble_eq_true rfl, Nat.le_of_ble_eq_true rfl⟩) (zy_pV (ci := 7) Z7 mL_ok mk_0 rfl rfl) rfl rfl hl.1 rfl (lv_room (Nat.le_of_ble_eq_true rfl)) dX7_goesOn_5 ⟨Nat.le_of_ble_eq_true rfl, Nat.le_of_ble_eq_true rfl⟩) (fun H12 lo13 Z14 => ?_)
  clear Z7 hc10
  exact zy_vret X hr hlk Z14 (zEnd hf11) dX7_goesOn_8
