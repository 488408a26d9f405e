def B_X7_goesOnMany_2 (a1 : Int32) (rec2_ : Int32 → zg_S → Option (Int32 × zg_S)) (x2 : Int32) (σ : zg_S) : Option (Int32 × zg_S) := (if a1 ≤ x2 then some (0, σ) else zbd (f_X7_goesOn σ) (fun (r4 : Int32) (σ5 : zg_S) => rec2_ (x2 + 1) σ5))
def L_X7_goesOnMany_2 (a1 : Int32) : Nat → Int32 → zg_S → Option (Int32 × zg_S) := zfix (fun _ _ => none) (B_X7_goesOnMany_2 a1)
def f_X7_goesOnMany (a1 : Int32) (σ : zg_S) : Option (Int32 × zg_S) := L_X7_goesOnMany_2 a1 zfu 0 σ
set_option maxHeartbeats 4000000 in
set_option maxRecDepth 100000 in
theorem c_X7_goesOnMany (l : Launch) (D : va_G) (V : zz_V) (ad : Nat → Nat) (cA : Nat → ClassId) (a1 : Int32)  (σ : zg_S) (r0 : Int32) (σf : zg_S) (hf : f_X7_goesOnMany a1 σ = some (r0, σf)) : zM_V l yX7_goesOnMany wsX7_goesOnMany 6 134 D V ML ad cA [.ref (ad 0), .int a1] σ r0 σf := by
  intro sz
  refine Met.ofW (cc := cX7_goesOnMany) (maxL := 3) (ret := none) (by decide) rfl ?_
  intro p e s m args below meth c s₁ B hml hv
  obtain ⟨rfl, hC⟩ := hv
  have hx := B.exec
  have hb := B.bytes
  have hr := B.returns
  have hts := atoms_spec (ws := wsX7_goesOnMany) B.pre
  have hown : s.vm.findClass RX7 = some m.cls := findClass_of_methodNamed B.named
  have hlk := B.notSynchronized
  have X : CallFix p m c cX7_goesOnMany 3 s _ wsX7_goesOnMany RX7 := ⟨hx, hb, hml, hown, hts⟩
  have Z := zz_enter hC
  generalize va_A (zg_W ML ad cA σ) sz = A at Z ⊢
  have hl := lv_entry ([.ref (ad 0), .int a1]) (n := 3) (Nat.le_of_ble_eq_true rfl)
  rw [lg_entry_eq]
  generalize (lg_sl ([.ref (ad 0), .int a1]) ++ List.replicate (3 - (lg_sl ([.ref (ad 0), .int a1])).length) Slot.unset).toArray = ls at hl ⊢
  have hl : lv_has ls 3 [(0, .ref (ad 0)), (1, .int a1)] := hl
  unfold f_X7_goesOnMany at hf
  have b2_ : ∀ (k2_ : Nat) (x2 : Int32) (σ : zg_S), L_X7_goesOnMany_2 a1 k2_ x2 σ = some (r0, σf) → ∀ (H : Heap) (locs : List Loc) (ls : Array Slot), zz_S D V A s (zg_W ML ad cA σ) (zg_T ML cA) H locs → lv_has ls 3 [(0, .ref (ad 0)), (1, .int a1), (2, .int x2)] → W p l e (headSpec wsX7_goesOnMany { frames := 6, cells := 0, slots := 0, locals := 134 }).room s m (List.toArray [.ref (ad 0), .int a1]) below meth c H locs 0 0 (MQ below (va_Qv (fun (_ : Unit) => True) (fun _ t => zz_B D A (zg_W ML ad cA σf) (zg_T ML cA) t) A) (List.toArray [.ref (ad 0), .int a1]) s 0 0 A) (F0 m 2 ls []) := by
    intro k2_
    induction k2_ with
    | zero =>
        intro x2 σ hf2_ H2_ locs2_ ls2_ Z2_ hl2_
        exact zNone hf2_
    | succ k2_ ih2_ =>
        intro x2 σ hf2_ H2_ locs2_ ls2_ Z2_ hl2_
        replace hf2_ : B_X7_goesOnMany_2 a1 (L_X7_goesOnMany_2 a1 k2_) x2 σ = some (r0, σf) := hf2_
        unfold B_X7_goesOnMany_2 at hf2_
        refine lv_iload_n hx hb dX7_goesOnMany_2 rfl (lv_at hl2_ 2 rfl) ?_
        refine lv_iload_n hx hb dX7_goesOnMany_3 rfl (lv_at hl2_ 1 rfl) ?_
        refine lv_icmp_ge (tgt := 17) hx hb dX7_goesOnMany_4 (by decide) (fun b1 => ?_) (fun b1 => ?_)
        · have hf2 := zYes hf2_ b1
          clear hf2_
          exact zy_vret X hr hlk Z2_ (zEnd hf2) dX7_goesOnMany_17
        · have hf3 := zNot hf2_ b1
          clear hf2_
          refine lv_aload_n hx hb dX7_goesOnMany_7 rfl (lv_at hl2_ 0 rfl) ?_
          obtain ⟨r4, σ5, hc6, hf7⟩ := zBd hf3
          clear hf3
          refine zy_cv (WS1 := zg_W ML ad cA σ5) (TYS1 := zg_T ML cA) Z2_ (va_runV (As := []) (rest := []) X (c_X7_goesOn l D V ad cA  σ r4 σ5 hc6 H2_.size) (cwV 0 hts gX7_goesOnMany_X7_goesOn rfl rfl rfl ⟨rfl, zh_X7_goesOn⟩ ⟨Nat.le_of_ble_eq_true rfl, Nat.le_of_ble_eq_true rfl⟩) (zy_pV (ci := 7) Z2_ mL_ok mk_0 rfl rfl) rfl rfl hl2_.1 rfl (lv_room (Nat.le_of_ble_eq_true rfl)) dX7_goesOnMany_8 ⟨Nat.le_of_ble_eq_true rfl, Nat.le_of_ble_eq_true rfl⟩) (fun H8 lo9 Z10 => ?_)
          clear Z2_ hc6
          refine lv_iinc (v := (x2 + 1)) (lv' := [(2, .int (x2 + 1)), (0, .ref (ad 0)), (1, .int a1)]) hx hb dX7_goesOnMany_11 hl2_ (k := 2) rfl rfl (by decide) rfl (fun ls12 hl11 => ?_)
          clear hl2_
          refine lv_goto (tgt := 2) hx hb dX7_goesOnMany_14 (by decide) ?_
          exact ih2_ (x2 + 1) σ5 hf7 _ _ _ Z10 (lv_sub hl11 [1, 2, 0] rfl)
  refine lv_iconst (v := 0) hx hb dX7_goesOnMany_0 (by decide) ?_
  refine lv_istore_n (lv' := [(2, .int 0), (0, .ref (ad 0)), (1, .int a1)]) hx hb dX7_goesOnMany_1 rfl hl (by decide) rfl (fun ls14 hl13 => ?_)
  clear hl
  exact b2_ zfu 0 σ hf _ _ _ Z (lv_sub hl13 [1, 2, 0] rfl)
def B_X7_laysBack_2 (rec2_ : Int32 → zg_S → Option (Int32 × zg_S)) (x1 : Int32) (σ : zg_S) : Option (Int32 × zg_S) := (if 47 ≤ x1 then some (0, σ) else (if zin x1 47 = true then zlet (σ 12 (Int32.toNatClampNeg x1)) (fun (y7 : Int32) => (if zin x1 3047 = true then zlet (zg_up σ 1 (Int32.toNatClampNeg x1) y7) (fun (σ13 : zg_S) => rec2_ (x1 + 1) σ13) else none)) else none))
def L_X7_laysBack_2 : Nat → Int32 → zg_S → Option (Int32 × zg_S) := zfix (fun _ _ => none) (B_X7_laysBack_2)
def f_X7_laysBack  (σ : zg_S) : Option (Int32 × zg_S) := L_X7_laysBack_2 zfu 0 σ
set_option maxHeartbeats 4000000 in
set_option maxRecDepth 100000 in
theorem c_X7_laysBack (l : Launch) (D : va_G) (V : zz_V) (ad : Nat → Nat) (cA : Nat → ClassId)   (σ : zg_S) (r0 : Int32) (σf : zg_S) (hf : f_X7_laysBack  σ = some (r0, σf)) : zM_V l yX7_laysBack wsX7_laysBack 0 0 D V ML ad cA [.ref (ad 0)] σ r0 σf := by
  intro sz
  refine Met.ofW (cc := cX7_laysBack) (maxL := 2) (ret := none) (by decide) rfl ?_
  intro p e s m args below meth c s₁ B hml hv
  obtain ⟨rfl, hC⟩ := hv
  have hx := B.exec
  have hb := B.bytes
  have hr := B.returns
  have hts := atoms_spec (ws := wsX7_laysBack) B.pre
  have hown : s.vm.findClass RX7 = some m.cls := findClass_of_methodNamed B.named
  have hlk := B.notSynchronized
  have X : CallFix p m c cX7_laysBack 2 s _ wsX7_laysBack RX7 := ⟨hx, hb, hml, hown, hts⟩
  have Z := zz_enter hC
  generalize va_A (zg_W ML ad cA σ) sz = A at Z ⊢
  have hl := lv_entry ([.ref (ad 0)]) (n := 2) (Nat.le_of_ble_eq_true rfl)
  rw [lg_entry_eq]
  generalize (lg_sl ([.ref (ad 0)]) ++ List.replicate (2 - (lg_sl ([.ref (ad 0)])).length) Slot.unset).toArray = ls at hl ⊢
  have hl : lv_has ls 2 [(0, .ref (ad 0))] := hl
  unfold f_X7_laysBack at hf
  have b2_ : ∀ (k2_ : Nat) (x1 : Int32) (σ : zg_S), L_X7_laysBack_2 k2_ x1 σ = some (r0, σf) → ∀ (H : Heap) (locs : List Loc) (ls : Array Slot), zz_S D V A s (zg_W ML ad cA σ) (zg_T ML cA) H locs → lv_has ls 2 [(0, .ref (ad 0)), (1, .int x1)] → W p l e (headSpec wsX7_laysBack { frames := 0, cells := 0, slots := 0, locals := 0 }).room s m (List.toArray [.ref (ad 0)]) below meth c H locs 0 0 (MQ below (va_Qv (fun (_ : Unit) => True) (fun _ t => zz_B D A (zg_W ML ad cA σf) (zg_T ML cA) t) A) (List.toArray [.ref (ad 0)]) s 0 0 A) (F0 m 2 ls []) := by
    intro k2_
    induction k2_ with
    | zero =>
        intro x1 σ hf2_ H2_ locs2_ ls2_ Z2_ hl2_
        exact zNone hf2_
    | succ k2_ ih2_ =>
        intro x1 σ hf2_ H2_ locs2_ ls2_ Z2_ hl2_
        replace hf2_ : B_X7_laysBack_2 (L_X7_laysBack_2 k2_) x1 σ = some (r0, σf) := hf2_
        unfold B_X7_laysBack_2 at hf2_
        refine lv_iload_n hx hb dX7_laysBack_2 rfl (lv_at hl2_ 1 rfl) ?_
        refine lv_bipush (v := 47) hx hb dX7_laysBack_3 (by decide) ?_
        refine lv_icmp_ge (tgt := 26) hx hb dX7_laysBack_5 (by decide) (fun b1 => ?_) (fun b1 => ?_)
        · have hf2 := zYes hf2_ b1
          clear hf2_
          exact zy_vret X hr hlk Z2_ (zEnd hf2) dX7_laysBack_26
        · have hf3 := zNot hf2_ b1
          clear hf2_
          refine lv_aload_n hx hb dX7_laysBack_8 rfl (lv_at hl2_ 0 rfl) ?_
          refine zy_get (v := .ref (ad 1)) X Z2_ mL_ok mk_0 rfl rfl (fun w h => List.mem_cons_of_mem _ (List.mem_append_right _ h)) 0 rfl (zz_m 1 rfl) rfl dX7_laysBack_9 ?_
          refine lv_iload_n hx hb dX7_laysBack_12 rfl (lv_at hl2_ 1 rfl) ?_
          refine lv_aload_n hx hb dX7_laysBack_13 rfl (lv_at hl2_ 0 rfl) ?_
          refine zy_get (v := .ref (ad 12)) X Z2_ mL_ok mk_0 rfl rfl (fun w h => List.mem_cons_of_mem _ (List.mem_append_right _ h)) 12 rfl (zz_m 2 rfl) rfl dX7_laysBack_14 ?_
          refine lv_iload_n hx hb dX7_laysBack_17 rfl (lv_at hl2_ 1 rfl) ?_
          obtain ⟨⟨i4, j5⟩, hf6⟩ := zG hf3
          clear hf3
          refine zy_ild X Z2_ mL_ok mk_12 ml_12 i4 dX7_laysBack_18 ?_
          obtain ⟨y7, ey8, hf9⟩ := zLet hf6
          clear hf6
          refine zz_v (v := y7) ey8.symm ?_
          clear ey8
          obtain ⟨⟨i10, j11⟩, hf12⟩ := zG hf9
          clear hf9
          obtain ⟨σ13, es14, hf15⟩ := zLet hf12
          clear hf12
          refine zy_ist (σ' := σ13) X Z2_ mL_ok mk_1 ml_1 i10 es14 dX7_laysBack_19 (fun H16 lo17 Z18 => ?_)
          clear Z2_ es14
          refine lv_iinc (v := (x1 + 1)) (lv' := [(1, .int (x1 + 1)), (0, .ref (ad 0))]) hx hb dX7_laysBack_20 hl2_ (k := 1) rfl rfl (by decide) rfl (fun ls20 hl19 => ?_)
          clear hl2_
          refine lv_goto (tgt := 2) hx hb dX7_laysBack_23 (by decide) ?_
          exact ih2_ (x1 + 1) σ13 hf15 _ _ _ Z18 (lv_sub hl19 [1, 0] rfl)
  refine lv_iconst (v := 0) hx hb dX7_laysBack_0 (by decide) ?_
  refine lv_istore_n (lv' := [(1, .int 0), (0, .ref (ad 0))]) hx hb dX7_laysBack_1 rfl hl (by decide) rfl (fun ls22 hl21 => ?_)
  clear hl
  exact b2_ zfu 0 σ hf _ _ _ Z (lv_sub hl21 [1, 0] rfl)
def B_X7_behind_84 (a1 : Int32) (a2 : Int32) (y0 : Int32) (σ : zg_S) : Option (Int32 × zg_S) := zbd (f_X7_laysBack σ) (fun (r3 : Int32) (σ4 : zg_S) => some (y0, σ4))
def f_X7_behind (a1 : Int32) (a2 : Int32) (σ : zg_S) : Option (Int32 × zg_S) := zbd (f_X7_isIn (Int32.toInt64 a1) (Int32.toInt64 0) (Int32.toInt64 100) σ) (fun (r10 : Int32) (σ11 : zg_S) => (if r10 = 0 then some ((-1000000001), σ11) else zbd (f_X7_isIn (Int32.toInt64 a2) (Int32.toInt64 0) (Int32.toInt64 3) σ11) (fun (r20 : Int32) (σ21 : zg_S) => (if r20 = 0 then some ((-1000000001), σ21) else zbd (f_X7_laysBy σ21) (fun (r29 : Int32) (σ30 : zg_S) => zbd (f_X7_goesOnMany a1 σ30) (fun (r36 : Int32) (σ37 : zg_S) => (if a2 = 0 then B_X7_behind_84 a1 a2 (σ37 1 4) σ37 else (if a2 = 1 then B_X7_behind_84 a1 a2 (σ37 1 3) σ37 else (if a2 = 2 then B_X7_behind_84 a1 a2 (σ37 1 7) σ37 else B_X7_behind_84 a1 a2 (σ37 1 5) σ37)))))))))
set_option maxHeartbeats 4000000 in
set_option maxRecDepth 100000 in
theorem c_X7_behind (l : Launch) (D : va_G) (V : zz_V) (ad : Nat → Nat) (cA : Nat → ClassId) (a1 : Int32) (a2 : Int32)  (σ : zg_S) (r0 : Int32) (σf : zg_S) (hf : f_X7_behind a1 a2 σ = some (r0, σf)) : zM_I l yX7_behind wsX7_behind 7 156 D V ML ad cA [.ref (ad 0), .int a1, .int a2] σ r0 σf := by
  intro sz
  refine Met.ofW (cc := cX7_behind) (maxL := 4) (ret := (some .int)) (by decide) rfl ?_
  intro p e s m args below meth c s₁ B hml hv
  obtain ⟨rfl, hC⟩ := hv
  have hx := B.exec
  have hb := B.bytes
  have hr := B.returns
  have hts := atoms_spec (ws := wsX7_behind) B.pre
  have hown : s.vm.findClass RX7 = some m.cls := findClass_of_methodNamed B.named
  have hlk := B.notSynchronized
  have X : CallFix p m c cX7_behind 4 s _ wsX7_behind RX7 := ⟨hx, hb, hml, hown, hts⟩
  have Z := zz_enter hC
  generalize va_A (zg_W ML ad cA σ) sz = A at Z ⊢
  have hl := lv_entry ([.ref (ad 0), .int a1, .int a2]) (n := 4) (Nat.le_of_ble_eq_true rfl)
  rw [lg_entry_eq]
  generalize (lg_sl ([.ref (ad 0), .int a1, .int a2]) ++ List.replicate (4 - (lg_sl ([.ref (ad 0), .int a1, .int a2])).length) Slot.unset).toArray = ls at hl ⊢
  have hl : lv_has ls 4 [(0, .ref (ad 0)), (1, .int a1), (2, .int a2)] := hl
  unfold f_X7_behind at hf
  have b84_ : ∀ (y0 : Int32) (σ : zg_S), B_X7_behind_84 a1 a2 y0 σ = some (r0, σf) → ∀ (H : Heap) (locs : List Loc) (ls : Array Slot), zz_S D V A s (zg_W ML ad cA σ) (zg_T ML cA) H locs → lv_has ls 4 [(0, .ref (ad 0))] → W p l e (headSpec wsX7_behind { frames := 7, cells := 0, slots := 0, locals := 156 }).room s m (List.toArray [.ref (ad 0), .int a1, .int a2]) below meth c H locs 0 0 (MQ below (va_Qi (fun r (_ : Unit) => r = r0) (fun _ t => zz_B D A (zg_W ML ad cA σf) (zg_T ML cA) t) A) (List.toArray [.ref (ad 0), .int a1, .int a2]) s 0 0 A) (F0 m 84 ls [.int y0]) := by
    intro y0 σ hf84_ H84_ locs84_ ls84_ Z84_ hl84_
    unfold B_X7_behind_84 at hf84_
    refine lv_istore_n (lv' := [(3, .int y0), (0, .ref (ad 0))]) hx hb dX7_behind_84 rfl hl84_ (by decide) rfl (fun ls2 hl1 => ?_)
    clear hl84_
    refine lv_aload_n hx hb dX7_behind_85 rfl (lv_at hl1 1 rfl) ?_
    obtain ⟨r3, σ4, hc5, hf6⟩ := zBd hf84_
    clear hf84_
    refine zy_cv (WS1 := zg_W ML ad cA σ4) (TYS1 := zg_T ML cA) Z84_ (va_runV (As := []) (rest := []) X (c_X7_laysBack l D V ad cA  σ r3 σ4 hc5 H84_.size) (cwV 0 hts gX7_behind_X7_laysBack rfl rfl rfl ⟨rfl, zh_X7_laysBack⟩ ⟨Nat.le_of_ble_eq_true rfl, Nat.le_of_ble_eq_true rfl⟩) (zy_pV (ci := 7) Z84_ mL_ok mk_0 rfl rfl) rfl rfl hl1.1 rfl (lv_room (Nat.le_of_ble_eq_true rfl)) dX7_behind_86 ⟨Nat.le_of_ble_eq_true rfl, Nat.le_of_ble_eq_true rfl⟩) (fun H7 lo8 Z9 => ?_)
    clear Z84_ hc5
    refine lv_iload_n hx hb dX7_behind_89 rfl (lv_at hl1 0 rfl) ?_
    exact zy_iret X hr hlk Z9 (zEnd hf6) dX7_behind_90
  refine lv_iload_n hx hb dX7_behind_0 rfl (lv_at hl 1 rfl) ?_
  refine lv_i2l (v := Int32.toInt64 a1) hx hb dX7_behind_1 rfl ?_
  refine lv_lconst (v := 0) hx hb dX7_behind_2 (by decide) ?_
  refine zz_vl (v := Int32.toInt64 0) (by decide) ?_
  refine lv_ldc2 (v := 100) hx hb hown (hts _ (zz_m 1 rfl)) dX7_behind_3 ?_
  refine zz_vl (v := Int32.toInt64 100) (by decide) ?_
  obtain ⟨r10, σ11, hc12, hf13⟩ := zBd hf
  clear hf
  refine zy_ci (r0 := r10) (WS1 := zg_W ML ad cA σ11) (TYS1 := zg_T ML cA) Z (va_runS (As := [.long (Int32.toInt64 a1), .long (Int32.toInt64 0), .long (Int32.toInt64 100)]) (rest := []) X (c_X7_isIn l D V ad cA (Int32.toInt64 a1) (Int32.toInt64 0) (Int32.toInt64 100) σ r10 σ11 hc12 s.heap.size) (va_cwS 3 hts gX7_behind_X7_isIn rfl rfl rfl zh_X7_isIn ⟨Nat.le_of_ble_eq_true rfl, Nat.le_of_ble_eq_true rfl⟩) (zz_pS Z) rfl rfl hl.1 rfl (lv_room (Nat.le_of_ble_eq_true rfl)) dX7_behind_6 ⟨Nat.le_of_ble_eq_true rfl, Nat.le_of_ble_eq_true rfl⟩) (fun H14 lo15 Z16 => ?_)
  clear Z hc12
  refine lv_if_eq (tgt := 24) hx hb dX7_behind_9 (by decide) (fun b17 => ?_) (fun b17 => ?_)
  · have hf18 := zYes hf13 b17
    clear hf13
    refine lv_ldc (v := (-1000000001)) hx hb hown (hts _ (zz_m 3 rfl)) dX7_behind_24 ?_
    exact zy_iret X hr hlk Z16 (zEnd hf18) dX7_behind_26
  · have hf19 := zNot hf13 b17
    clear hf13
    refine lv_iload_n hx hb dX7_behind_12 rfl (lv_at hl 2 rfl) ?_
    refine lv_i2l (v := Int32.toInt64 a2) hx hb dX7_behind_13 rfl ?_
    refine lv_lconst (v := 0) hx hb dX7_behind_14 (by decide) ?_
    refine zz_vl (v := Int32.toInt64 0) (by decide) ?_
    refine lv_ldc2 (v := 3) hx hb hown (hts _ (zz_m 2 rfl)) dX7_behind_15 ?_
    refine zz_vl (v := Int32.toInt64 3) (by decide) ?_
    obtain ⟨r20, σ21, hc22, hf23⟩ := zBd hf19
    clear hf19
    refine zy_ci (r0 := r20) (WS1 := zg_W ML ad cA σ21) (TYS1 := zg_T ML cA) Z16 (va_runS (As := [.long (Int32.toInt64 a2), .long (Int32.toInt64 0), .long (Int32.toInt64 3)]) (rest := []) X (c_X7_isIn l D V ad cA (Int32.toInt64 a2) (Int32.toInt64 0) (Int32.toInt64 3) σ11 r20 σ21 hc22 H14.size) (va_cwS 3 hts gX7_behind_X7_isIn rfl rfl rfl zh_X7_isIn ⟨Nat.le_of_ble_eq_true rfl, Nat.le_of_ble_eq_true rfl⟩) (zz_pS Z16) rfl rfl hl.1 rfl (lv_room (Nat.le_of_ble_eq_true rfl)) dX7_behind_18 ⟨Nat.le_of_ble_eq_true rfl, Nat.le_of_ble_eq_true rfl⟩) (fun H24 lo25 Z26 => ?_)
    clear Z16 hc22
    refine lv_if_ne (tgt := 27) hx hb dX7_behind_21 (by decide) (fun b27 => ?_) (fun b27 => ?_)
    · have hf28 := zNot hf23 b27
      clear hf23
      refine lv_aload_n hx hb dX7_behind_27 rfl (lv_at hl 0 rfl) ?_
      obtain ⟨r29, σ30, hc31, hf32⟩ := zBd hf28
      clear hf28
      refine zy_cv (WS1 := zg_W ML ad cA σ30) (TYS1 := zg_T ML cA) Z26 (va_runV (As := []) (rest := []) X (c_X7_laysBy l D V ad cA  σ21 r29 σ30 hc31 H24.size) (cwV 0 hts gX7_behind_X7_laysBy rfl rfl rfl ⟨rfl, zh_X7_laysBy⟩ ⟨Nat.le_of_ble_eq_true rfl, Nat.le_of_ble_eq_true rfl⟩) (zy_pV (ci := 7) Z26 mL_ok mk_0 rfl rfl) rfl rfl hl.1 rfl (lv_room (Nat.le_of_ble_eq_true rfl)) dX7_behind_28 ⟨Nat.le_of_ble_eq_true rfl, Nat.le_of_ble_eq_true rfl⟩) (fun H33 lo34 Z35 => ?_)
      clear Z26 hc31
      refine lv_aload_n hx hb dX7_behind_31 rfl (lv_at hl 0 rfl) ?_
      refine lv_iload_n hx hb dX7_behind_32 rfl (lv_at hl 1 rfl) ?_
      obtain ⟨r36, σ37, hc38, hf39⟩ := zBd hf32
      clear hf32
      refine zy_cv (WS1 := zg_W ML ad cA σ37) (TYS1 := zg_T ML cA) Z35 (va_runV (As := [.int a1]) (rest := []) X (c_X7_goesOnMany l D V ad cA a1 σ30 r36 σ37 hc38 H33.size) (cwV 1 hts gX7_behind_X7_goesOnMany rfl rfl rfl ⟨rfl, zh_X7_goesOnMany⟩ ⟨Nat.le_of_ble_eq_true rfl, Nat.le_of_ble_eq_true rfl⟩) (zy_pV (ci := 7) Z35 mL_ok mk_0 rfl rfl) rfl rfl hl.1 rfl (lv_room (Nat.le_of_ble_eq_true rfl)) dX7_behind_33 ⟨Nat.le_of_ble_eq_true rfl, Nat.le_of_ble_eq_true rfl⟩) (fun H40 lo41 Z42 => ?_)
      clear Z35 hc38
      refine lv_iload_n hx hb dX7_behind_36 rfl (lv_at hl 2 rfl) ?_
      refine lv_if_ne (tgt := 49) hx hb dX7_behind_37 (by decide) (fun b43 => ?_) (fun b43 => ?_)
      · have hf44 := zNot hf39 b43
        clear hf39
        refine lv_iload_n hx hb dX7_behind_49 rfl (lv_at hl 2 rfl) ?_
        refine lv_iconst (v := 1) hx hb dX7_behind_50 (by decide) ?_
        refine lv_icmp_ne (tgt := 63) hx hb dX7_behind_51 (by decide) (fun b45 => ?_) (fun b45 => ?_)
        · have hf46 := zNot hf44 b45
          clear hf44
          refine lv_iload_n hx hb dX7_behind_63 rfl (lv_at hl 2 rfl) ?_
          refine lv_iconst (v := 2) hx hb dX7_behind_64 (by decide) ?_
          refine lv_icmp_ne (tgt := 78) hx hb dX7_behind_65 (by decide) (fun b47 => ?_) (fun b47 => ?_)
          · have hf48 := zNot hf46 b47
            clear hf46
            refine lv_aload_n hx hb dX7_behind_78 rfl (lv_at hl 0 rfl) ?_
            refine zy_get (v := .ref (ad 1)) X Z42 mL_ok mk_0 rfl rfl (fun w h => List.mem_cons_of_mem _ (List.mem_append_right _ h)) 0 rfl (zz_m 4 rfl) rfl dX7_behind_79 ?_
            refine lv_iconst (v := 5) hx hb dX7_behind_82 (by decide) ?_
            refine zy_ild X Z42 mL_ok mk_1 ml_1 (zz_in 5 3047 rfl) dX7_behind_83 ?_
            refine zz_v (v := σ37 1 5) rfl ?_
            exact b84_ (σ37 1 5) σ37 hf48 _ _ _ Z42 (lv_sub hl [0] rfl)
          · have hf49 := zYes hf46 b47
            clear hf46
            refine lv_aload_n hx hb dX7_behind_68 rfl (lv_at hl 0 rfl) ?_
            refine zy_get (v := .ref (ad 1)) X Z42 mL_ok mk_0 rfl rfl (fun w h => List.mem_cons_of_mem _ (List.mem_append_right _ h)) 0 rfl (zz_m 4 rfl) rfl dX7_behind_69 ?_
            refine lv_bipush (v := 7) hx hb dX7_behind_72 (by decide) ?_
            refine zy_ild X Z42 mL_ok mk_1 ml_1 (zz_in 7 3047 rfl) dX7_behind_74 ?_
            refine zz_v (v := σ37 1 7) rfl ?_
            refine lv_goto (tgt := 84) hx hb dX7_behind_75 (by decide) ?_
            exact b84_ (σ37 1 7) σ37 hf49 _ _ _ Z42 (lv_sub hl [0] rfl)
        · have hf50 := zYes hf44 b45
          clear hf44
          refine lv_aload_n hx hb dX7_behind_54 rfl (lv_at hl 0 rfl) ?_
          refine zy_get (v := .ref (ad 1)) X Z42 mL_ok mk_0 rfl rfl (fun w h => List.mem_cons_of_mem _ (List.mem_append_right _ h)) 0 rfl (zz_m 4 rfl) rfl dX7_behind_55 ?_
          refine lv_iconst (v := 3) hx hb dX7_behind_58 (by decide) ?_
          refine zy_ild X Z42 mL_ok mk_1 ml_1 (zz_in 3 3047 rfl) dX7_behind_59 ?_
          refine zz_v (v := σ37 1 3) rfl ?_
          refine lv_goto (tgt := 84) hx hb dX7_behind_60 (by decide) ?_
          exact b84_ (σ37 1 3) σ37 hf50 _ _ _ Z42 (lv_sub hl [0] rfl)
      · have hf51 := zYes hf39 b43
        clear hf39
        refine lv_aload_n hx hb dX7_behind_40 rfl (lv_at hl 0 rfl) ?_
        refine zy_get (v := .ref (ad 1)) X Z42 mL_ok mk_0 rfl rfl (fun w h => List.mem_cons_of_mem _ (List.mem_append_right _ h)) 0 rfl (zz_m 4 rfl) rfl dX7_behind_41 ?_
        refine lv_iconst (v := 4) hx hb dX7_behind_44 (by decide) ?_
        refine zy_ild X Z42 mL_ok mk_1 ml_1 (zz_in 4 3047 rfl) dX7_behind_45 ?_
        refine zz_v (v := σ37 1 4) rfl ?_
        refine lv_goto (tgt := 84) hx hb dX7_behind_46 (by decide) ?_
        exact b84_ (σ37 1 4) σ37 hf51 _ _ _ Z42 (lv_sub hl [0] rfl)
    · have hf52 := zYes hf23 b27
      clear hf23
      refine lv_ldc (v := (-1000000001)) hx hb hown (hts _ (zz_m 3 rfl)) dX7_behind_24 ?_
      exact zy_iret X hr hlk Z26 (zEnd hf52) dX7_behind_26
def B_X7_best_149 (a1 : Int32) (a2 : Int32) (rec59_ : Int32 → Int32 → Int32 → Int32 → zg_S → Option (Int32 × zg_S)) (x3 : Int32) (x4 : Int32) (x5 : Int32) (x6 : Int32) (σ : zg_S) : Option (Int32 × zg_S) := rec59_ x3 x4 x5 (x6 + 1) σ
def B_X7_best_141 (a1 : Int32) (a2 : Int32) (rec59_ : Int32 → Int32 → Int32 → Int32 → zg_S → Option (Int32 × zg_S)) (x3 : Int32) (x6 : Int32) (x7 : Int32) (σ : zg_S) : Option (Int32 × zg_S) := B_X7_best_149 a1 a2 rec59_ x3 x6 x7 x6 σ
def B_X7_best_105 (a1 : Int32) (a2 : Int32) (rec70_ : Int32 → Int32 → Int32 → Int32 → Int32 → zg_S → Option (Int32 × zg_S)) (x3 : Int32) (x4 : Int32) (x5 : Int32) (x6 : Int32) (x7 : Int32) (y0 : Int32) (σ : zg_S) : Option (Int32 × zg_S) := zbd (f_X7_goesOnBy y0 σ) (fun (r7 : Int32) (σ8 : zg_S) => rec70_ x3 x4 x5 x6 (x7 / 3) σ8)
def B_X7_best_70 (a1 : Int32) (a2 : Int32) (rec59_ : Int32 → Int32 → Int32 → Int32 → zg_S → Option (Int32 × zg_S)) (rec70_ : Int32 → Int32 → Int32 → Int32 → Int32 → zg_S → Option (Int32 × zg_S)) (x3 : Int32) (x4 : Int32) (x5 : Int32) (x6 : Int32) (x7 : Int32) (σ : zg_S) : Option (Int32 × zg_S) := (if x7 ≤ 0 then zbd (f_X7_laysBack σ) (fun (r20 : Int32) (σ21 : zg_S) => (if x4 < 0 then B_X7_best_141 a1 a2 rec59_ x3 x6 (σ 1 4) σ21 else (if x5 ≤ (σ 1 4) then B_X7_best_149 a1 a2 rec59_ x3 x4 x5 x6 σ21 else B_X7_best_141 a1 a2 rec59_ x3 x6 (σ 1 4) σ21))) else (if x7 = 0 then none else zlet ((x6 / x7) - (x6 / x7) / 3 * 3) (fun (y36 : Int32) => (if y36 = 0 then B_X7_best_105 a1 a2 rec70_ x3 x4 x5 x6 x7 0 σ else (if y36 = 1 then B_X7_best_105 a1 a2 rec70_ x3 x4 x5 x6 x7 (-1) σ else B_X7_best_105 a1 a2 rec70_ x3 x4 x5 x6 x7 1 σ)))))
def L_X7_best_70 (a1 : Int32) (a2 : Int32) (rec59_ : Int32 → Int32 → Int32 → Int32 → zg_S → Option (Int32 × zg_S)) : Nat → Int32 → Int32 → Int32 → Int32 → Int32 → zg_S → Option (Int32 × zg_S) := zfix (fun _ _ _ _ _ _ => none) (B_X7_best_70 a1 a2 rec59_)
def B_X7_best_59 (a1 : Int32) (a2 : Int32) (rec59_ : Int32 → Int32 → Int32 → Int32 → zg_S → Option (Int32 × zg_S)) (x3 : Int32) (x4 : Int32) (x5 : Int32) (x6 : Int32) (σ : zg_S) : Option (Int32 × zg_S) := (if (3 * x3) ≤ x6 then (if a2 = 0 then some (x4, σ) else some (x5, σ)) else L_X7_best_70 a1 a2 rec59_ zfu x3 x4 x5 x6 x3 σ)
def L_X7_best_59 (a1 : Int32) (a2 : Int32) : Nat → Int32 → Int32 → Int32 → Int32 → zg_S → Option (Int32 × zg_S) := zfix (fun _ _ _ _ _ => none) (B_X7_best_59 a1 a2)
def B_X7_best_30 (a1 : Int32) (a2 : Int32) (rec30_ : Int32 → Int32 → zg_S → Option (Int32 × zg_S)) (x3 : Int32) (x4 : Int32) (σ : zg_S) : Option (Int32 × zg_S) := (if a1 ≤ x4 then zbd (f_X7_laysBy σ) (fun (r57 : Int32) (σ58 : zg_S) => L_X7_best_59 a1 a2 zfu x3 (-1) 0 0 σ58) else rec30_ (x3 * 3) (x4 + 1) σ)
def L_X7_best_30 (a1 : Int32) (a2 : Int32) : Nat → Int32 → Int32 → zg_S → Option (Int32 × zg_S) := zfix (fun _ _ _ => none) (B_X7_best_30 a1 a2)
def f_X7_best (a1 : Int32) (a2 : Int32) (σ : zg_S) : Option (Int32 × zg_S) := zbd (f_X7_isIn (Int32.toInt64 a1) (Int32.toInt64 1) (Int32.toInt64 5) σ) (fun (r75 : Int32) (σ76 : zg_S) => (if r75 = 0 then some ((-1000000001), σ76) else zbd (f_X7_isIn (Int32.toInt64 a2) (Int32.toInt64 0) (Int32.toInt64 1) σ76) (fun (r85 : Int32) (σ86 : zg_S) => (if r85 = 0 then some ((-1000000001), σ86) else L_X7_best_30 a1 a2 zfu 1 1 σ86))))
set_option maxHeartbeats 4000000 in
set_option maxRecDepth 100000 in
theorem c_X7_best (l : Launch) (D : va_G) (V : zz_V) (ad : Nat → Nat) (cA : Nat → ClassId) (a1 : Int32) (a2 : Int32)  (σ : zg_S) (r0 : Int32) (σf : zg_S) (hf : f_X7_best a1 a2 σ = some (r0, σf)) : zM_I l yX7_best wsX7_best 5 114 D V ML ad cA [.ref (ad 0), .int a1, .int a2] σ r0 σf := by
  intro sz
  refine Met.ofW (cc := cX7_best) (maxL := 9) (ret := (some .int)) (by decide) rfl ?_
  intro p e s m args below meth c s₁ B hml hv
  obtain ⟨rfl, hC⟩ := hv
  have hx := B.exec
  have hb := B.bytes
  have hr := B.returns
  have hts := atoms_spec (ws := wsX7_best) B.pre
  have hown : s.vm.findClass RX7 = some m.cls := findClass_of_methodNamed B.named
  have hlk := B.notSynchronized
  have X : CallFix p m c cX7_best 9 s _ wsX7_best RX7 := ⟨hx, hb, hml, hown, hts⟩
  have Z := zz_enter hC
  generalize va_A (zg_W ML ad cA σ) sz = A at Z ⊢
  have hl := lv_entry ([.ref (ad 0), .int a1, .int a2]) (n := 9) (Nat.le_of_ble_eq_true rfl)
  rw [lg_entry_eq]
  generalize (lg_sl ([.ref (ad 0), .int a1, .int a2]) ++ List.replicate (9 - (lg_sl ([.ref (ad 0), .int a1, .int a2])).length) Slot.unset).toArray = ls at hl ⊢
  have hl : lv_has ls 9 [(0, .ref (ad 0)), (1, .int a1), (2, .int a2)] := hl
  unfold f_X7_best at hf
  have b30_ : ∀ (k30_ : Nat) (x3 : Int32) (x4 : Int32) (σ : zg_S), L_X7_best_30 a1 a2 k30_ x3 x4 σ = some (r0, σf) → ∀ (H : Heap) (locs : List Loc) (ls : Array Slot), zz_S D V A s (zg_W ML ad cA σ) (zg_T ML cA) H locs → lv_has ls 9 [(0, .ref (ad 0)), (1, .int a1), (2, .int a2), (3, .int x3), (4, .int x4)] → W p l e (headSpec wsX7_best { frames := 5, cells := 0, slots := 0, locals := 114 }).room s m (List.toArray [.ref (ad 0), .int a1, .int a2]) below meth c H locs 0 0 (MQ below (va_Qi (fun r (_ : Unit) => r = r0) (fun _ t => zz_B D A (zg_W ML ad cA σf) (zg_T ML cA) t) A) (List.toArray [.ref (ad 0), .int a1, .int a2]) s 0 0 A) (F0 m 30 ls []) := by
    intro k30_
    induction k30_ with
    | zero =>
        intro x3 x4 σ hf30_ H30_ locs30_ ls30_ Z30_ hl30_
        exact zNone hf30_
    | succ k30_ ih30_ =>
        intro x3 x4 σ hf30_ H30_ locs30_ ls30_ Z30_ hl30_
        replace hf30_ : B_X7_best_30 a1 a2 (L_X7_best_30 a1 a2 k30_) x3 x4 σ = some (r0, σf) := hf30_
        unfold B_X7_best_30 at hf30_
        have b59_ : ∀ (k59_ : Nat) (x3 : Int32) (x4 : Int32) (x5 : Int32) (x6 : Int32) (σ : zg_S), L_X7_best_59 a1 a2 k59_ x3 x4 x5 x6 σ = some (r0, σf) → ∀ (H : Heap) (locs : List Loc) (ls : Array Slot), zz_S D V A s (zg_W ML ad cA σ) (zg_T ML cA) H locs → lv_has ls 9 [(0, .ref (ad 0)), (2, .int a2), (3, .int x3), (4, .int x4), (5, .int x5), (6, .int x6)] → W p l e (headSpec wsX7_best { frames := 5, cells := 0, slots := 0, locals := 114 }).room s m (List.toArray [.ref (ad 0), .int a1, .int a2]) below meth c H locs 0 0 (MQ below (va_Qi (fun r (_ : Unit) => r = r0) (fun _ t => zz_B D A (zg_W ML ad cA σf) (zg_T ML cA) t) A) (List.toArray [.ref (ad 0), .int a1, .int a2]) s 0 0 A) (F0 m 59 ls []) := by
          intro k59_
          induction k59_ with
          | zero =>
              intro x3 x4 x5 x6 σ hf59_ H59_ locs59_ ls59_ Z59_ hl59_
              exact zNone hf59_
          | succ k59_ ih59_ =>
              intro x3 x4 x5 x6 σ hf59_ H59_ locs59_ ls59_ Z59_ hl59_
              replace hf59_ : B_X7_best_59 a1 a2 (L_X7_best_59 a1 a2 k59_) x3 x4 x5 x6 σ = some (r0, σf) := hf59_
              unfold B_X7_best_59 at hf59_
              have b70_ : ∀ (k70_ : Nat) (x3 : Int32) (x4 : Int32) (x5 : Int32) (x6 : Int32) (x7 : Int32) (σ : zg_S), L_X7_best_70 a1 a2 (L_X7_best_59 a1 a2 k59_) k70_ x3 x4 x5 x6 x7 σ = some (r0, σf) → ∀ (H : Heap) (locs : List Loc) (ls : Array Slot), zz_S D V A s (zg_W ML ad cA σ) (zg_T ML cA) H locs → lv_has ls 9 [(0, .ref (ad 0)), (2, .int a2), (3, .int x3), (4, .int x4), (5, .int x5), (6, .int x6), (7, .int x7)] → W p l e (headSpec wsX7_best { frames := 5, cells := 0, slots := 0, locals := 114 }).room s m (List.toArray [.ref (ad 0), .int a1, .int a2]) below meth c H locs 0 0 (MQ below (va_Qi (fun r (_ : Unit) => r = r0) (fun _ t => zz_B D A (zg_W ML ad cA σf) (zg_T ML cA) t) A) (List.toArray [.ref (ad 0), .int a1, .int a2]) s 0 0 A) (F0 m 70 ls []) := by
                intro k70_
                induction k70_ with
                | zero =>
                    intro x3 x4 x5 x6 x7 σ hf70_ H70_ locs70_ ls70_ Z70_ hl70_
                    exact zNone hf70_
                | succ k70_ ih70_ =>
                    intro x3 x4 x5 x6 x7 σ hf70_ H70_ locs70_ ls70_ Z70_ hl70_
                    replace hf70_ : B_X7_best_70 a1 a2 (L_X7_best_59 a1 a2 k59_) (L_X7_best_70 a1 a2 (L_X7_best_59 a1 a2 k59_) k70_) x3 x4 x5 x6 x7 σ = some (r0, σf) := hf70_
                    unfold B_X7_best_70 at hf70_
                    have b149_ : ∀ (x3 : Int32) (x4 : Int32) (x5 : Int32) (x6 : Int32) (σ : zg_S), B_X7_best_149 a1 a2 (L_X7_best_59 a1 a2 k59_) x3 x4 x5 x6 σ = some (r0, σf) → ∀ (H : Heap) (locs : List Loc) (ls : Array Slot), zz_S D V A s (zg_W ML ad cA σ) (zg_T ML cA) H locs → lv_has ls 9 [(0, .ref (ad 0)), (2, .int a2), (3, .int x3), (4, .int x4), (5, .int x5), (6, .int x6)] → W p l e (headSpec wsX7_best { frames := 5, cells := 0, slots := 0, locals := 114 }).room s m (List.toArray [.ref (ad 0), .int a1, .int a2]) below meth c H locs 0 0 (MQ below (va_Qi (fun r (_ : Unit) => r = r0) (fun _ t => zz_B D A (zg_W ML ad cA σf) (zg_T ML cA) t) A) (List.toArray [.ref (ad 0), .int a1, .int a2]) s 0 0 A) (F0 m 149 ls []) := by
                      intro x3 x4 x5 x6 σ hf149_ H149_ locs149_ ls149_ Z149_ hl149_
                      unfold B_X7_best_149 at hf149_
                      refine lv_iinc (v := (x6 + 1)) (lv' := [(6, .int (x6 + 1)), (0, .ref (ad 0)), (2, .int a2), (3, .int x3), (4, .int x4), (5, .int x5)]) hx hb dX7_best_149 hl149_ (k := 5) rfl rfl (by decide) rfl (fun ls2 hl1 => ?_)
                      clear hl149_
                      refine lv_goto (tgt := 59) hx hb dX7_best_152 (by decide) ?_
                      exact ih59_ x3 x4 x5 (x6 + 1) σ hf149_ _ _ _ Z149_ (lv_sub hl1 [1, 2, 3, 4, 5, 0] rfl)
                    have b141_ : ∀ (x3 : Int32) (x6 : Int32) (x7 : Int32) (σ : zg_S), B_X7_best_141 a1 a2 (L_X7_best_59 a1 a2 k59_) x3 x6 x7 σ = some (r0, σf) → ∀ (H : Heap) (locs : List Loc) (ls : Array Slot), zz_S D V A s (zg_W ML ad cA σ) (zg_T ML cA) H locs → lv_has ls 9 [(0, .ref (ad 0)), (2, .int a2), (3, .int x3), (6, .int x6), (7, .int x7)] → W p l e (headSpec wsX7_best { frames := 5, cells := 0, slots := 0, locals := 114 }).room s m (List.toArray [.ref (ad 0), .int a1, .int a2]) below meth c H locs 0 0 (MQ below (va_Qi (fun r (_ : Unit) => r = r0) (fun _ t => zz_B D A (zg_W ML ad cA σf) (zg_T ML cA) t) A) (List.toArray [.ref (ad 0), .int a1, .int a2]) s 0 0 A) (F0 m 141 ls []) := by
                      intro x3 x6 x7 σ hf141_ H141_ locs141_ ls141_ Z141_ hl141_
                      unfold B_X7_best_141 at hf141_
                      refine lv_iload hx hb dX7_best_141 (lv_at hl141_ 3 rfl) ?_
                      refine lv_istore (lv' := [(4, .int x6), (0, .ref (ad 0)), (2, .int a2), (3, .int x3), (6, .int x6), (7, .int x7)]) hx hb dX7_best_143 hl141_ (by decide) rfl (fun ls4 hl3 => ?_)
                      clear hl141_
                      refine lv_iload hx hb dX7_best_145 (lv_at hl3 5 rfl) ?_
                      refine lv_istore (lv' := [(5, .int x7), (4, .int x6), (0, .ref (ad 0)), (2, .int a2), (3, .int x3), (6, .int x6), (7, .int x7)]) hx hb dX7_best_147 hl3 (by decide) rfl (fun ls6 hl5 => ?_)
                      clear hl3
                      exact b149_ x3 x6 x7 x6 σ hf141_ _ _ _ Z141_ (lv_sub hl5 [2, 3, 4, 1, 0, 5] rfl)
                    have b105_ : ∀ (x3 : Int32) (x4 : Int32) (x5 : Int32) (x6 : Int32) (x7 : Int32) (y0 : Int32) (σ : zg_S), B_X7_best_105 a1 a2 (L_X7_best_70 a1 a2 (L_X7_best_59 a1 a2 k59_) k70_) x3 x4 x5 x6 x7 y0 σ = some (r0, σf) → ∀ (H : Heap) (locs : List Loc) (ls : Array Slot), zz_S D V A s (zg_W ML ad cA σ) (zg_T ML cA) H locs → lv_has ls 9 [(0, .ref (ad 0)), (2, .int a2), (3, .int x3), (4, .int x4), (5, .int x5), (6, .int x6), (7, .int x7)] → W p l e (headSpec wsX7_best { frames := 5, cells := 0, slots := 0, locals := 114 }).room s m (List.toArray [.ref (ad 0), .int a1, .int a2]) below meth c H locs 0 0 (MQ below (va_Qi (fun r (_ : Unit) => r = r0) (fun _ t => zz_B D A (zg_W ML ad cA σf) (zg_T ML cA) t) A) (List.toArray [.ref (ad 0), .int a1, .int a2]) s 0 0 A) (F0 m 105 ls [.int y0, .ref (ad 0)]) := by
                      intro x3 x4 x5 x6 x7 y0 σ hf105_ H105_ locs105_ ls105_ Z105_ hl105_
                      unfold B_X7_best_105 at hf105_
                      obtain ⟨r7, σ8, hc9, hf10⟩ := zBd hf105_
                      clear hf105_
                      refine zy_cv (WS1 := zg_W ML ad cA σ8) (TYS1 := zg_T ML cA) Z105_ (va_runV (As := [.int y0]) (rest := []) X (c_X7_goesOnBy l D V ad cA y0 σ r7 σ8 hc9 H105_.size) (cwV 1 hts gX7_best_X7_goesOnBy rfl rfl rfl ⟨rfl, zh_X7_goesOnBy⟩ ⟨Nat.le_of_ble_eq_true rfl, Nat.le_of_ble_eq_true rfl⟩) (zy_pV (ci := 7) Z105_ mL_ok mk_0 rfl rfl) rfl rfl hl105_.1 rfl (lv_room (Nat.le_of_ble_eq_true rfl)) dX7_best_105 ⟨Nat.le_of_ble_eq_true rfl, Nat.le_of_ble_eq_true rfl⟩) (fun H11 lo12 Z13 => ?_)
                      clear Z105_ hc9
                      refine lv_iload hx hb dX7_best_108 (lv_at hl105_ 6 rfl) ?_
                      refine lv_iconst (v := 3) hx hb dX7_best_110 (by decide) ?_
                      refine lv_idiv hx hb dX7_best_111 (by decide) ?_
                      refine lv_istore (lv' := [(7, .int (x7 / 3)), (0, .ref (ad 0)), (2, .int a2), (3, .int x3), (4, .int x4), (5, .int x5), (6, .int x6)]) hx hb dX7_best_112 hl105_ (by decide) rfl (fun ls15 hl14 => ?_)
                      clear hl105_
                      refine lv_goto (tgt := 70) hx hb dX7_best_114 (by decide) ?_
                      exact ih70_ x3 x4 x5 x6 (x7 / 3) σ8 hf10 _ _ _ Z13 (lv_sub hl14 [1, 2, 3, 4, 5, 6, 0] rfl)
                    refine lv_iload hx hb dX7_best_70 (lv_at hl70_ 6 rfl) ?_
                    refine lv_if_le (tgt := 117) hx hb dX7_best_72 (by decide) (fun b16 => ?_) (fun b16 => ?_)
                    · have hf17 := zYes hf70_ b16
                      clear hf70_
                      refine lv_aload_n hx hb dX7_best_117 rfl (lv_at hl70_ 0 rfl) ?_
                      refine zy_get (v := .ref (ad 1)) X Z70_ mL_ok mk_0 rfl rfl (fun w h => List.mem_cons_of_mem _ (List.mem_append_right _ h)) 0 rfl (zz_m 3 rfl) rfl dX7_best_118 ?_
                      refine lv_iconst (v := 4) hx hb dX7_best_121 (by decide) ?_
                      refine zy_ild X Z70_ mL_ok mk_1 ml_1 (zz_in 4 3047 rfl) dX7_best_122 ?_
                      refine zz_v (v := σ 1 4) rfl ?_
                      refine lv_istore (lv' := [(7, .int (σ 1 4)), (0, .ref (ad 0)), (2, .int a2), (3, .int x3), (4, .int x4), (5, .int x5), (6, .int x6)]) hx hb dX7_best_123 hl70_ (by decide) rfl (fun ls19 hl18 => ?_)
                      clear hl70_
                      refine lv_aload_n hx hb dX7_best_125 rfl (lv_at hl18 1 rfl) ?_
                      obtain ⟨r20, σ21, hc22, hf23⟩ := zBd hf17
                      clear hf17
                      refine zy_cv (WS1 := zg_W ML ad cA σ21) (TYS1 := zg_T ML cA) Z70_ (va_runV (As := []) (rest := []) X (c_X7_laysBack l D V ad cA  σ r20 σ21 hc22 H70_.size) (cwV 0 hts gX7_best_X7_laysBack rfl rfl rfl ⟨rfl, zh_X7_laysBack⟩ ⟨Nat.le_of_ble_eq_true rfl, Nat.le_of_ble_eq_true rfl⟩) (zy_pV (ci := 7) Z70_ mL_ok mk_0 rfl rfl) rfl rfl hl18.1 rfl (lv_room (Nat.le_of_ble_eq_true rfl)) dX7_best_126 ⟨Nat.le_of_ble_eq_true rfl, Nat.le_of_ble_eq_true rfl⟩) (fun H24 lo25 Z26 => ?_)
                      clear Z70_ hc22
                      refine lv_iload hx hb dX7_best_129 (lv_at hl18 4 rfl) ?_
                      refine lv_if_lt (tgt := 141) hx hb dX7_best_131 (by decide) (fun b27 => ?_) (fun b27 => ?_)
                      · have hf28 := zYes hf23 b27
                        clear hf23
                        exact b141_ x3 x6 (σ 1 4) σ21 hf28 _ _ _ Z26 (lv_sub hl18 [1, 2, 3, 6, 0] rfl)
                      · have hf29 := zNot hf23 b27
                        clear hf23
                        refine lv_iload hx hb dX7_best_134 (lv_at hl18 0 rfl) ?_
                        refine lv_iload hx hb dX7_best_136 (lv_at hl18 5 rfl) ?_
                        refine lv_icmp_ge (tgt := 149) hx hb dX7_best_138 (by decide) (fun b30 => ?_) (fun b30 => ?_)
                        · have hf31 := zYes hf29 b30
                          clear hf29
                          exact b149_ x3 x4 x5 x6 σ21 hf31 _ _ _ Z26 (lv_sub hl18 [1, 2, 3, 4, 5, 6] rfl)
                        · have hf32 := zNot hf29 b30
                          clear hf29
                          exact b141_ x3 x6 (σ 1 4) σ21 hf32 _ _ _ Z26 (lv_sub hl18 [1, 2, 3, 6, 0] rfl)
                    · have hf33 := zNot hf70_ b16
                      clear hf70_
                      refine lv_iload hx hb dX7_best_75 (lv_at hl70_ 5 rfl) ?_
                      refine lv_iload hx hb dX7_best_77 (lv_at hl70_ 6 rfl) ?_
                      obtain ⟨z34, hf35⟩ := zD hf33
                      clear hf33
                      refine lv_idiv hx hb dX7_best_79 z34 ?_
                      refine lv_iconst (v := 3) hx hb dX7_best_80 (by decide) ?_
                      refine lv_irem hx hb dX7_best_81 (by decide) ?_
                      obtain ⟨y36, ey37, hf38⟩ := zLet hf35
                      clear hf35
                      refine zz_v (v := y36) ey37.symm ?_
                      clear ey37
                      refine lv_istore (lv' := [(8, .int y36), (0, .ref (ad 0)), (2, .int a2), (3, .int x3), (4, .int x4), (5, .int x5), (6, .int x6), (7, .int x7)]) hx hb dX7_best_82 hl70_ (by decide) rfl (fun ls40 hl39 => ?_)
                      clear hl70_
                      refine lv_aload_n hx hb dX7_best_84 rfl (lv_at hl39 1 rfl) ?_
                      refine lv_iload hx hb dX7_best_85 (lv_at hl39 0 rfl) ?_
                      refine lv_if_ne (tgt := 94) hx hb dX7_best_87 (by decide) (fun b41 => ?_) (fun b41 => ?_)
                      · have hf42 := zNot hf38 b41
                        clear hf38
                        refine lv_iload hx hb dX7_best_94 (lv_at hl39 0 rfl) ?_
                        refine lv_iconst (v := 1) hx hb dX7_best_96 (by decide) ?_
                        refine lv_icmp_ne (tgt := 104) hx hb dX7_best_97 (by decide) (fun b43 => ?_) (fun b43 => ?_)
                        · have hf44 := zNot hf42 b43
                          clear hf42
                          refine lv_iconst (v := 1) hx hb dX7_best_104 (by decide) ?_
                          exact b105_ x3 x4 x5 x6 x7 1 σ hf44 _ _ _ Z70_ (lv_sub hl39 [1, 2, 3, 4, 5, 6, 7] rfl)
                        · have hf45 := zYes hf42 b43
                          clear hf42
                          refine lv_iconst (v := (-1)) hx hb dX7_best_100 (by decide) ?_
                          refine lv_goto (tgt := 105) hx hb dX7_best_101 (by decide) ?_
                          exact b105_ x3 x4 x5 x6 x7 (-1) σ hf45 _ _ _ Z70_ (lv_sub hl39 [1, 2, 3, 4, 5, 6, 7] rfl)
                      · have hf46 := zYes hf38 b41
                        clear hf38
                        refine lv_iconst (v := 0) hx hb dX7_best_90 (by decide) ?_
                        refine lv_goto (tgt := 105) hx hb dX7_best_91 (by decide) ?_
                        exact b105_ x3 x4 x5 x6 x7 0 σ hf46 _ _ _ Z70_ (lv_sub hl39 [1, 2, 3, 4, 5, 6, 7] rfl)
              refine lv_iload hx hb dX7_best_59 (lv_at hl59_ 5 rfl) ?_
              refine lv_iconst (v := 3) hx hb dX7_best_61 (by decide) ?_
              refine lv_iload_n hx hb dX7_best_62 rfl (lv_at hl59_ 2 rfl) ?_
              refine lv_imul hx hb dX7_best_63 ?_
              refine lv_icmp_ge (tgt := 155) hx hb dX7_best_64 (by decide) (fun b47 => ?_) (fun b47 => ?_)
              · have hf48 := zYes hf59_ b47
                clear hf59_
                refine lv_iload_n hx hb dX7_best_155 rfl (lv_at hl59_ 1 rfl) ?_
                refine lv_if_ne (tgt := 164) hx hb dX7_best_156 (by decide) (fun b49 => ?_) (fun b49 => ?_)
                · have hf50 := zNot hf48 b49
                  clear hf48
                  refine lv_iload hx hb dX7_best_164 (lv_at hl59_ 4 rfl) ?_
                  exact zy_iret X hr hlk Z59_ (zEnd hf50) dX7_best_166
                · have hf51 := zYes hf48 b49
                  clear hf48
                  refine lv_iload hx hb dX7_best_159 (lv_at hl59_ 3 rfl) ?_
                  refine lv_goto (tgt := 166) hx hb dX7_best_161 (by decide) ?_
                  exact zy_iret X hr hlk Z59_ (zEnd hf51) dX7_best_166
              · have hf52 := zNot hf59_ b47
                clear hf59_
                refine lv_iload_n hx hb dX7_best_67 rfl (lv_at hl59_ 2 rfl) ?_
                refine lv_istore (lv' := [(7, .int x3), (0, .ref (ad 0)), (2, .int a2), (3, .int x3), (4, .int x4), (5, .int x5), (6, .int x6)]) hx hb dX7_best_68 hl59_ (by decide) rfl (fun ls54 hl53 => ?_)
                clear hl59_
                exact b70_ zfu x3 x4 x5 x6 x3 σ hf52 _ _ _ Z59_ (lv_sub hl53 [1, 2, 3, 4, 5, 6, 0] rfl)
        refine lv_iload hx hb dX7_best_30 (lv_at hl30_ 4 rfl) ?_
        refine lv_iload_n hx hb dX7_best_32 rfl (lv_at hl30_ 1 rfl) ?_
        refine lv_icmp_ge (tgt := 46) hx hb dX7_best_33 (by decide) (fun b55 => ?_) (fun b55 => ?_)
        · have hf56 := zYes hf30_ b55
          clear hf30_
          refine lv_aload_n hx hb dX7_best_46 rfl (lv_at hl30_ 0 rfl) ?_
          obtain ⟨r57, σ58, hc59, hf60⟩ := zBd hf56
          clear hf56
          refine zy_cv (WS1 := zg_W ML ad cA σ58) (TYS1 := zg_T ML cA) Z30_ (va_runV (As := []) (rest := []) X (c_X7_laysBy l D V ad cA  σ r57 σ58 hc59 H30_.size) (cwV 0 hts gX7_best_X7_laysBy rfl rfl rfl ⟨rfl, zh_X7_laysBy⟩ ⟨Nat.le_of_ble_eq_true rfl, Nat.le_of_ble_eq_true rfl⟩) (zy_pV (ci := 7) Z30_ mL_ok mk_0 rfl rfl) rfl rfl hl30_.1 rfl (lv_room (Nat.le_of_ble_eq_true rfl)) dX7_best_47 ⟨Nat.le_of_ble_eq_true rfl, Nat.le_of_ble_eq_true rfl⟩) (fun H61 lo62 Z63 => ?_)
          clear Z30_ hc59
          refine lv_iconst (v := (-1)) hx hb dX7_best_50 (by decide) ?_
          refine lv_istore (lv' := [(4, .int (-1)), (0, .ref (ad 0)), (1, .int a1), (2, .int a2), (3, .int x3)]) hx hb dX7_best_51 hl30_ (by decide) rfl (fun ls65 hl64 => ?_)
          clear hl30_
          refine lv_iconst (v := 0) hx hb dX7_best_53 (by decide) ?_
          refine lv_istore (lv' := [(5, .int 0), (4, .int (-1)), (0, .ref (ad 0)), (1, .int a1), (2, .int a2), (3, .int x3)]) hx hb dX7_best_54 hl64 (by decide) rfl (fun ls67 hl66 => ?_)
          clear hl64
          refine lv_iconst (v := 0) hx hb dX7_best_56 (by decide) ?_
          refine lv_istore (lv' := [(6, .int 0), (5, .int 0), (4, .int (-1)), (0, .ref (ad 0)), (1, .int a1), (2, .int a2), (3, .int x3)]) hx hb dX7_best_57 hl66 (by decide) rfl (fun ls69 hl68 => ?_)
          clear hl66
          exact b59_ zfu x3 (-1) 0 0 σ58 hf60 _ _ _ Z63 (lv_sub hl68 [3, 5, 6, 2, 1, 0] rfl)
        · have hf70 := zNot hf30_ b55
          clear hf30_
          refine lv_iload_n hx hb dX7_best_36 rfl (lv_at hl30_ 3 rfl) ?_
          refine lv_iconst (v := 3) hx hb dX7_best_37 (by decide) ?_
          refine lv_imul hx hb dX7_best_38 ?_
          refine lv_istore_n (lv' := [(3, .int (x3 * 3)), (0, .ref (ad 0)), (1, .int a1), (2, .int a2), (4, .int x4)]) hx hb dX7_best_39 rfl hl30_ (by decide) rfl (fun ls72 hl71 => ?_)
          clear hl30_
          refine lv_iinc (v := (x4 + 1)) (lv' := [(4, .int (x4 + 1)), (3, .int (x3 * 3)), (0, .ref (ad 0)), (1, .int a1), (2, .int a2)]) hx hb dX7_best_40 hl71 (k := 4) rfl rfl (by decide) rfl (fun ls74 hl73 => ?_)
          clear hl71
          refine lv_goto (tgt := 30) hx hb dX7_best_43 (by decide) ?_
          exact ih30_ (x3 * 3) (x4 + 1) σ hf70 _ _ _ Z30_ (lv_sub hl73 [2, 3, 4, 1, 0] rfl)
  refine lv_iload_n hx hb dX7_best_0 rfl (lv_at hl 1 rfl) ?_
  refine lv_i2l (v := Int32.toInt64 a1) hx hb dX7_best_1 rfl ?_
  refine lv_lconst (v := 1) hx hb dX7_best_2 (by decide) ?_
  refine zz_vl (v := Int32.toInt64 1) (by decide) ?_
  refine lv_ldc2 (v := 5) hx hb hown (hts _ (zz_m 1 rfl)) dX7_best_3 ?_
  refine zz_vl (v := Int32.toInt64 5) (by decide) ?_
  obtain ⟨r75, σ76, hc77, hf78⟩ := zBd hf
  clear hf
  refine zy_ci (r0 := r75) (WS1 := zg_W ML ad cA σ76) (TYS1 := zg_T ML cA) Z (va_runS (As := [.long (Int32.toInt64 a1), .long (Int32.toInt64 1), .long (Int32.toInt64 5)]) (rest := []) X (c_X7_isIn l D V ad cA (Int32.toInt64 a1) (Int32.toInt64 1) (Int32.toInt64 5) σ r75 σ76 hc77 s.heap.size) (va_cwS 3 hts gX7_best_X7_isIn rfl rfl rfl zh_X7_isIn ⟨Nat.le_of_ble_eq_true rfl, Nat.le_of_ble_eq_true rfl⟩) (zz_pS Z) rfl rfl hl.1 rfl (lv_room (Nat.le_of_ble_eq_true rfl)) dX7_best_6 ⟨Nat.le_of_ble_eq_true rfl, Nat.le_of_ble_eq_true rfl⟩) (fun H79 lo80 Z81 => ?_)
  clear Z hc77
  refine lv_if_eq (tgt := 22) hx hb dX7_best_9 (by decide) (fun b82 => ?_) (fun b82 => ?_)
  · have hf83 := zYes hf78 b82
    clear hf78
    refine lv_ldc (v := (-1000000001)) hx hb hown (hts _ (zz_m 2 rfl)) dX7_best_22 ?_
    exact zy_iret X hr hlk Z81 (zEnd hf83) dX7_best_24
  · have hf84 := zNot hf78 b82
    clear hf78
    refine lv_iload_n hx hb dX7_best_12 rfl (lv_at hl 2 rfl) ?_
    refine lv_i2l (v := Int32.toInt64 a2) hx hb dX7_best_13 rfl ?_
    refine lv_lconst (v := 0) hx hb dX7_best_14 (by decide) ?_
    refine zz_vl (v := Int32.toInt64 0) (by decide) ?_
    refine lv_lconst (v := 1) hx hb dX7_best_15 (by decide) ?_
    refine zz_vl (v := Int32.toInt64 1) (by decide) ?_
    obtain ⟨r85, σ86, hc87, hf88⟩ := zBd hf84
    clear hf84
    refine zy_ci (r0 := r85) (WS1 := zg_W ML ad cA σ86) (TYS1 := zg_T ML cA) Z81 (va_runS (As := [.long (Int32.toInt64 a2), .long (Int32.toInt64 0), .long (Int32.toInt64 1)]) (rest := []) X (c_X7_isIn l D V ad cA (Int32.toInt64 a2) (Int32.toInt64 0) (Int32.toInt64 1) σ76 r85 σ86 hc87 H79.size) (va_cwS 3 hts gX7_best_X7_isIn rfl rfl rfl zh_X7_isIn ⟨Nat.le_of_ble_eq_true rfl, Nat.le_of_ble_eq_true rfl⟩) (zz_pS Z81) rfl rfl hl.1 rfl (lv_room (Nat.le_of_ble_eq_true rfl)) dX7_best_16 ⟨Nat.le_of_ble_eq_true rfl, Nat.le_of_ble_eq_true rfl⟩) (fun H89 lo90 Z91 => ?_)
    clear Z81 hc87
    refine lv_if_ne (tgt := 25) hx hb dX7_best_19 (by decide) (fun b92 => ?_) (fun b92 => ?_)
    · have hf93 := zNot hf88 b92
      clear hf88
      refine lv_iconst (v := 1) hx hb dX7_best_25 (by decide) ?_
      refine lv_istore_n (lv' := [(3, .int 1), (0, .ref (ad 0)), (1, .int a1), (2, .int a2)]) hx hb dX7_best_26 rfl hl (by decide) rfl (fun ls95 hl94 => ?_)
      clear hl
      refine lv_iconst (v := 1) hx hb dX7_best_27 (by decide) ?_
      refine lv_istore (lv' := [(4, .int 1), (3, .int 1), (0, .ref (ad 0)), (1, .int a1), (2, .int a2)]) hx hb dX7_best_28 hl94 (by decide) rfl (fun ls97 hl96 => ?_)
      clear hl94
      exact b30_ zfu 1 1 σ86 hf93 _ _ _ Z91 (lv_sub hl96 [2, 3, 4, 1, 0] rfl)
    · have hf98 := zYes hf88 b92
      clear hf88
      refine lv_ldc (v := (-1000000001)) hx hb hown (hts _ (zz_m 2 rfl)) dX7_best_22 ?_
      exact zy_iret X hr hlk Z91 (zEnd hf98) dX7_best_24
def B_X7_book_63 (a1 : Int32) (rec63_ : Int32 → Int32 → zg_S → Option (Int32 × zg_S)) (x2 : Int32) (x3 : Int32) (σ : zg_S) : Option (Int32 × zg_S) := (if (σ 1 0) ≤ x3 then some (x2, σ) else zbd (f_X7_of x3 2 σ) (fun (r4 : Int32) (σ5 : zg_S) => rec63_ (x2 + r4) (x3 + 1) σ5))
def L_X7_book_63 (a1 : Int32) : Nat → Int32 → Int32 → zg_S → Option (Int32 × zg_S) := zfix (fun _ _ _ => none) (B_X7_book_63 a1)
def f_X7_book (a1 : Int32) (σ : zg_S) : Option (Int32 × zg_S) := (if a1 = 0 then some (σ 1 4, σ) else (if a1 = 1 then some (σ 1 3, σ) else (if a1 = 2 then some (σ 1 5, σ) else (if a1 = 3 then L_X7_book_63 a1 zfu 0 0 σ else some ((-1000000001), σ)))))
set_option maxHeartbeats 4000000 in
set_option maxRecDepth 100000 in
theorem c_X7_book (l : Launch) (D : va_G) (V : zz_V) (ad : Nat → Nat) (cA : Nat → ClassId) (a1 : Int32)  (σ : zg_S) (r0 : Int32) (σf : zg_S) (hf : f_X7_book a1 σ = some (r0, σf)) : zM_I l yX7_book wsX7_book 1 22 D V ML ad cA [.ref (ad 0), .int a1] σ r0 σf := by
  intro sz
  refine Met.ofW (cc := cX7_book) (maxL := 4) (ret := (some .int)) (by decide) rfl ?_
  intro p e s m args below meth c s₁ B hml hv
  obtain ⟨rfl, hC⟩ := hv
  have hx := B.exec
  have hb := B.bytes
  have hr := B.returns
  have hts := atoms_spec (ws := wsX7_book) B.pre
  have hown : s.vm.findClass RX7 = some m.cls := findClass_of_methodNamed B.named
  have hlk := B.notSynchronized
  have X : CallFix p m c cX7_book 4 s _ wsX7_book RX7 := ⟨hx, hb, hml, hown, hts⟩
  have Z := zz_enter hC
  generalize va_A (zg_W ML ad cA σ) sz = A at Z ⊢
  have hl := lv_entry ([.ref (ad 0), .int a1]) (n := 4) (Nat.le_of_ble_eq_true rfl)
  rw [lg_entry_eq]
  generalize (lg_sl ([.ref (ad 0), .int a1]) ++ List.replicate (4 - (lg_sl ([.ref (ad 0), .int a1])).length) Slot.unset).toArray = ls at hl ⊢
  have hl : lv_has ls 4 [(0, .ref (ad 0)), (1, .int a1)] := hl
  unfold f_X7_book at hf
  have b63_ : ∀ (k63_ : Nat) (x2 : Int32) (x3 : Int32) (σ : zg_S), L_X7_book_63 a1 k63_ x2 x3 σ = some (r0, σf) → ∀ (H : Heap) (locs : List Loc) (ls : Array Slot), zz_S D V A s (zg_W ML ad cA σ) (zg_T ML cA) H locs → lv_has ls 4 [(0, .ref (ad 0)), (2, .int x2), (3, .int x3)] → W p l e (headSpec wsX7_book { frames := 1, cells := 0, slots := 0, locals := 22 }).room s m (List.toArray [.ref (ad 0), .int a1]) below meth c H locs 0 0 (MQ below (va_Qi (fun r (_ : Unit) => r = r0) (fun _ t => zz_B D A (zg_W ML ad cA σf) (zg_T ML cA) t) A) (List.toArray [.ref (ad 0), .int a1]) s 0 0 A) (F0 m 63 ls []) := by
    intro k63_
    induction k63_ with
    | zero =>
        intro x2 x3 σ hf63_ H63_ locs63_ ls63_ Z63_ hl63_
        exact zNone hf63_
    | succ k63_ ih63_ =>
        intro x2 x3 σ hf63_ H63_ locs63_ ls63_ Z63_ hl63_
        replace hf63_ : B_X7_book_63 a1 (L_X7_book_63 a1 k63_) x2 x3 σ = some (r0, σf) := hf63_
        unfold B_X7_book_63 at hf63_
        refine lv_iload_n hx hb dX7_book_63 rfl (lv_at hl63_ 2 rfl) ?_
        refine lv_aload_n hx hb dX7_book_64 rfl (lv_at hl63_ 0 rfl) ?_
        refine zy_get (v := .ref (ad 1)) X Z63_ mL_ok mk_0 rfl rfl (fun w h => List.mem_cons_of_mem _ (List.mem_append_right _ h)) 0 rfl (zz_m 1 rfl) rfl dX7_book_65 ?_
        refine lv_iconst (v := 0) hx hb dX7_book_68 (by decide) ?_
        refine zy_ild X Z63_ mL_ok mk_1 ml_1 (zz_in 0 3047 rfl) dX7_book_69 ?_
        refine zz_v (v := σ 1 0) rfl ?_
        refine lv_icmp_ge (tgt := 88) hx hb dX7_book_70 (by decide) (fun b1 => ?_) (fun b1 => ?_)
        · have hf2 := zYes hf63_ b1
          clear hf63_
          refine lv_iload_n hx hb dX7_book_88 rfl (lv_at hl63_ 1 rfl) ?_
          exact zy_iret X hr hlk Z63_ (zEnd hf2) dX7_book_89
        · have hf3 := zNot hf63_ b1
          clear hf63_
          refine lv_iload_n hx hb dX7_book_73 rfl (lv_at hl63_ 1 rfl) ?_
          refine lv_aload_n hx hb dX7_book_74 rfl (lv_at hl63_ 0 rfl) ?_
          refine lv_iload_n hx hb dX7_book_75 rfl (lv_at hl63_ 2 rfl) ?_
          refine lv_iconst (v := 2) hx hb dX7_book_76 (by decide) ?_
          obtain ⟨r4, σ5, hc6, hf7⟩ := zBd hf3
          clear hf3
          refine zy_ci (r0 := r4) (WS1 := zg_W ML ad cA σ5) (TYS1 := zg_T ML cA) Z63_ (va_runV (As := [.int x3, .int 2]) (rest := [.int x2]) X (c_X7_of l D V ad cA x3 2 σ r4 σ5 hc6 H63_.size) (cwV 2 hts gX7_book_X7_of rfl rfl rfl ⟨rfl, zh_X7_of⟩ ⟨Nat.le_of_ble_eq_true rfl, Nat.le_of_ble_eq_true rfl⟩) (zy_pV (ci := 7) Z63_ mL_ok mk_0 rfl rfl) rfl rfl hl63_.1 rfl (lv_room (Nat.le_of_ble_eq_true rfl)) dX7_book_77 ⟨Nat.le_of_ble_eq_true rfl, Nat.le_of_ble_eq_true rfl⟩) (fun H8 lo9 Z10 => ?_)
          clear Z63_ hc6
          refine lv_iadd hx hb dX7_book_80 ?_
          refine lv_istore_n (lv' := [(2, .int (x2 + r4)), (0, .ref (ad 0)), (3, .int x3)]) hx hb dX7_book_81 rfl hl63_ (by decide) rfl (fun ls12 hl11 => ?_)
          clear hl63_
          refine lv_iinc (v := (x3 + 1)) (lv' := [(3, .int (x3 + 1)), (2, .int (x2 + r4)), (0, .ref (ad 0))]) hx hb dX7_book_82 hl11 (k := 2) rfl rfl (by decide) rfl (fun ls14 hl13 => ?_)
          clear hl11
          refine lv_goto (tgt := 63) hx hb dX7_book_85 (by decide) ?_
          exact ih63_ (x2 + r4) (x3 + 1) σ5 hf7 _ _ _ Z10 (lv_sub hl13 [2, 1, 0] rfl)
  refine lv_iload_n hx hb dX7_book_0 rfl (lv_at hl 1 rfl) ?_
  by_cases w15 : a1 = 0
  · have hf16 := zYes hf w15
    clear hf
    refine zz_v w15 ?_
    refine lv_tableIn (x := 0) (off := 31) (tgt := 32) hx hb dX7_book_1 (by decide) (by decide) rfl (by decide) ?_
    refine lv_aload_n hx hb dX7_book_32 rfl (lv_at hl 0 rfl) ?_
    refine zy_get (v := .ref (ad 1)) X Z mL_ok mk_0 rfl rfl (fun w h => List.mem_cons_of_mem _ (List.mem_append_right _ h)) 0 rfl (zz_m 1 rfl) rfl dX7_book_33 ?_
    refine lv_iconst (v := 4) hx hb dX7_book_36 (by decide) ?_
    refine zy_ild X Z mL_ok mk_1 ml_1 (zz_in 4 3047 rfl) dX7_book_37 ?_
    refine zz_v (v := σ 1 4) rfl ?_
    exact zy_iret X hr hlk Z (zEnd hf16) dX7_book_38
  · have hf17 := zNot hf w15
    clear hf
    by_cases w18 : a1 = 1
    · have hf19 := zYes hf17 w18
      clear hf17
      refine zz_v w18 ?_
      refine lv_tableIn (x := 1) (off := 38) (tgt := 39) hx hb dX7_book_1 (by decide) (by decide) rfl (by decide) ?_
      refine lv_aload_n hx hb dX7_book_39 rfl (lv_at hl 0 rfl) ?_
      refine zy_get (v := .ref (ad 1)) X Z mL_ok mk_0 rfl rfl (fun w h => List.mem_cons_of_mem _ (List.mem_append_right _ h)) 0 rfl (zz_m 1 rfl) rfl dX7_book_40 ?_
      refine lv_iconst (v := 3) hx hb dX7_book_43 (by decide) ?_
      refine zy_ild X Z mL_ok mk_1 ml_1 (zz_in 3 3047 rfl) dX7_book_44 ?_
      refine zz_v (v := σ 1 3) rfl ?_
      exact zy_iret X hr hlk Z (zEnd hf19) dX7_book_45
    · have hf20 := zNot hf17 w18
      clear hf17
      by_cases w21 : a1 = 2
      · have hf22 := zYes hf20 w21
        clear hf20
        refine zz_v w21 ?_
        refine lv_tableIn (x := 2) (off := 45) (tgt := 46) hx hb dX7_book_1 (by decide) (by decide) rfl (by decide) ?_
        refine lv_aload_n hx hb dX7_book_46 rfl (lv_at hl 0 rfl) ?_
        refine zy_get (v := .ref (ad 1)) X Z mL_ok mk_0 rfl rfl (fun w h => List.mem_cons_of_mem _ (List.mem_append_right _ h)) 0 rfl (zz_m 1 rfl) rfl dX7_book_47 ?_
        refine lv_iconst (v := 5) hx hb dX7_book_50 (by decide) ?_
        refine zy_ild X Z mL_ok mk_1 ml_1 (zz_in 5 3047 rfl) dX7_book_51 ?_
        refine zz_v (v := σ 1 5) rfl ?_
        exact zy_iret X hr hlk Z (zEnd hf22) dX7_book_52
      · have hf23 := zNot hf20 w21
        clear hf20
        by_cases w24 : a1 = 3
        · have hf25 := zYes hf23 w24
          clear hf23
          refine zz_v w24 ?_
          refine lv_tableIn (x := 3) (off := 52) (tgt := 53) hx hb dX7_book_1 (by decide) (by decide) rfl (by decide) ?_
          refine lv_goto (tgt := 59) hx hb dX7_book_53 (by decide) ?_
          refine lv_iconst (v := 0) hx hb dX7_book_59 (by decide) ?_
          refine lv_istore_n (lv' := [(2, .int 0), (0, .ref (ad 0)), (1, .int a1)]) hx hb dX7_book_60 rfl hl (by decide) rfl (fun ls27 hl26 => ?_)
          clear hl
          refine lv_iconst (v := 0) hx hb dX7_book_61 (by decide) ?_
          refine lv_istore_n (lv' := [(3, .int 0), (2, .int 0), (0, .ref (ad 0)), (1, .int a1)]) hx hb dX7_book_62 rfl hl26 (by decide) rfl (fun ls29 hl28 => ?_)
          clear hl26
          exact b63_ zfu 0 0 σ hf25 _ _ _ Z (lv_sub hl28 [2, 1, 0] rfl)
        · have hf30 := zNot hf23 w24
          clear hf23
          have n31 := zNe (k := 0) (y := 0) (by decide) w15
          have n32 := zNe (k := 1) (y := 1) (by decide) w18
          have n33 := zNe (k := 2) (y := 2) (by decide) w21
          have n34 := zNe (k := 3) (y := 3) (by decide) w24
          refine lv_tableOut (tgt := 56) hx hb dX7_book_1 (by omega) (by decide) ?_
          refine lv_ldc (v := (-1000000001)) hx hb hown (hts _ (zz_m 2 rfl)) dX7_book_56 ?_
          exact zy_iret X hr hlk Z (zEnd hf30) dX7_book_58
def f_X7_step (a1 : Int32) (a2 : Int32) (σ : zg_S) : Option (Int32 × zg_S) := (if zin ((σ 0 23) + (2 * (σ 0 22))) 3047 = true then zlet (zg_up σ 1 (Int32.toNatClampNeg ((σ 0 23) + (2 * (σ 0 22)))) a1) (fun (σ4 : zg_S) => (if zin (((σ4 0 23) + (2 * (σ4 0 22))) + 1) 3047 = true then zlet (zg_up σ4 1 (Int32.toNatClampNeg (((σ4 0 23) + (2 * (σ4 0 22))) + 1)) a2) (fun (σ13 : zg_S) => zlet (zg_up σ13 0 22 ((σ13 0 22) + 1)) (fun (σ19 : zg_S) => some (0, σ19))) else none)) else none)
set_option maxHeartbeats 4000000 in
set_option maxRecDepth 100000 in
theorem c_X7_step (l : Launch) (D : va_G) (V : zz_V) (ad : Nat → Nat) (cA : Nat → ClassId) (a1 : Int32) (a2 : Int32)  (σ : zg_S) (r0 : Int32) (σf : zg_S) (hf : f_X7_step a1 a2 σ = some (r0, σf)) : zM_V l yX7_step wsX7_step 0 0 D V ML ad cA [.ref (ad 0), .int a1, .int a2] σ r0 σf := by
  intro sz
  refine Met.ofW (cc := cX7_step) (maxL := 3) (ret := none) (by decide) rfl ?_
  intro p e s m args below meth c s₁ B hml hv
  obtain ⟨rfl, hC⟩ := hv
  have hx := B.exec
  have hb := B.bytes
  have hr := B.returns
  have hts := atoms_spec (ws := wsX7_step) B.pre
  have hown : s.vm.findClass RX7 = some m.cls := findClass_of_methodNamed B.named
  have hlk := B.notSynchronized
  have X : CallFix p m c cX7_step 3 s _ wsX7_step RX7 := ⟨hx, hb, hml, hown, hts⟩
  have Z := zz_enter hC
  generalize va_A (zg_W ML ad cA σ) sz = A at Z ⊢
  have hl := lv_entry ([.ref (ad 0), .int a1, .int a2]) (n := 3) (Nat.le_of_ble_eq_true rfl)
  rw [lg_entry_eq]
  generalize (lg_sl ([.ref (ad 0), .int a1, .int a2]) ++ List.replicate (3 - (lg_sl ([.ref (ad 0), .int a1, .int a2])).length) Slot.unset).toArray = ls at hl ⊢
  have hl : lv_has ls 3 [(0, .ref (ad 0)), (1, .int a1), (2, .int a2)] := hl
  unfold f_X7_step at hf
  refine lv_aload_n hx hb dX7_step_0 rfl (lv_at hl 0 rfl) ?_
  refine zy_get (v := .ref (ad 1)) X Z mL_ok mk_0 rfl rfl (fun w h => List.mem_cons_of_mem _ (List.mem_append_right _ h)) 0 rfl (zz_m 1 rfl) rfl dX7_step_1 ?_
  refine lv_aload_n hx hb dX7_step_4 rfl (lv_at hl 0 rfl) ?_
  refine zy_get (v := .int (σ 0 23)) X Z mL_ok mk_0 rfl rfl (fun w h => List.mem_cons_of_mem _ (List.mem_append_right _ h)) 23 rfl (zz_m 2 rfl) rfl dX7_step_5 ?_
  refine lv_iconst (v := 2) hx hb dX7_step_8 (by decide) ?_
  refine lv_aload_n hx hb dX7_step_9 rfl (lv_at hl 0 rfl) ?_
  refine zy_get (v := .int (σ 0 22)) X Z mL_ok mk_0 rfl rfl (fun w h => List.mem_cons_of_mem _ (List.mem_append_right _ h)) 22 rfl (zz_m 3 rfl) rfl dX7_step_10 ?_
  refine lv_imul hx hb dX7_step_13 ?_
  refine lv_iadd hx hb dX7_step_14 ?_
  refine lv_iload_n hx hb dX7_step_15 rfl (lv_at hl 1 rfl) ?_
  obtain ⟨⟨i1, j2⟩, hf3⟩ := zG hf
  clear hf
  obtain ⟨σ4, es5, hf6⟩ := zLet hf3
  clear hf3
  refine zy_ist (σ' := σ4) X Z mL_ok mk_1 ml_1 i1 es5 dX7_step_16 (fun H7 lo8 Z9 => ?_)
  clear Z es5
  refine lv_aload_n hx hb dX7_step_17 rfl (lv_at hl 0 rfl) ?_
  refine zy_get (v := .ref (ad 1)) X Z9 mL_ok mk_0 rfl rfl (fun w h => List.mem_cons_of_mem _ (List.mem_append_right _ h)) 0 rfl (zz_m 1 rfl) rfl dX7_step_18 ?_
  refine lv_aload_n hx hb dX7_step_21 rfl (lv_at hl 0 rfl) ?_
  refine zy_get (v := .int (σ4 0 23)) X Z9 mL_ok mk_0 rfl rfl (fun w h => List.mem_cons_of_mem _ (List.mem_append_right _ h)) 23 rfl (zz_m 2 rfl) rfl dX7_step_22 ?_
  refine lv_iconst (v := 2) hx hb dX7_step_25 (by decide) ?_
  refine lv_aload_n hx hb dX7_step_26 rfl (lv_at hl 0 rfl) ?_
  refine zy_get (v := .int (σ4 0 22)) X Z9 mL_ok mk_0 rfl rfl (fun w h => List.mem_cons_of_mem _ (List.mem_append_right _ h)) 22 rfl (zz_m 3 rfl) rfl dX7_step_27 ?_
  refine lv_imul hx hb dX7_step_30 ?_
  refine lv_iadd hx hb dX7_step_31 ?_
  refine lv_iconst (v := 1) hx hb dX7_step_32 (by decide) ?_
  refine lv_iadd hx hb dX7_step_33 ?_
  refine lv_iload_n hx hb dX7_step_34 rfl (lv_at hl 2 rfl) ?_
  obtain ⟨⟨i10, j11⟩, hf12⟩ := zG hf6
  clear hf6
  obtain ⟨σ13, es14, hf15⟩ := zLet hf12
  clear hf12
  refine zy_ist (σ' := σ13) X Z9 mL_ok mk_1 ml_1 i10 es14 dX7_step_35 (fun H16 lo17 Z18 => ?_)
  clear Z9 es14
  refine lv_aload_n hx hb dX7_step_36 rfl (lv_at hl 0 rfl) ?_
  refine lv_dup hx hb dX7_step_37 rfl ?_
  refine zy_get (v := .int (σ13 0 22)) X Z18 mL_ok mk_0 rfl rfl (fun w h => List.mem_cons_of_mem _ (List.mem_append_right _ h)) 22 rfl (zz_m 3 rfl) rfl dX7_step_38 ?_
  refine lv_iconst (v := 1) hx hb dX7_step_41 (by decide) ?_
  refine lv_iadd hx hb dX7_step_42 ?_
  obtain ⟨σ19, es20, hf21⟩ := zLet hf15
  clear hf15
  refine zy_put (v := (σ13 0 22) + 1) (σ' := σ19) X Z18 mL_ok mk_0 rfl rfl (fun w h => List.mem_cons_of_mem _ (List.mem_append_right _ h)) tyX7 tyX7_ok nmX7 22 rfl (zz_m 3 rfl) rfl rfl rfl (fun _ => rfl) (fun _ => rfl) es20 dX7_step_43 (fun H22 lo23 Z24 => ?_)
  clear Z18 es20
  exact zy_vret X hr hlk Z24 (zEnd hf21) dX7_step_46
def f_X7_isLetter (a1 : Int32) (σ : zg_S) : Option (Int32 × zg_S) := (if (σ 0 14) ≤ a1 then some (0, σ) else (if zin a1 96 = true then zbd (f_X7_isIn (Int32.toInt64 (σ 13 (Int32.toNatClampNeg a1))) (Int32.toInt64 97) (Int32.toInt64 122) σ) (fun (r7 : Int32) (σ8 : zg_S) => (if r7 = 0 then some (0, σ8) else some (1, σ8))) else none))
set_option maxHeartbeats 4000000 in
set_option maxRecDepth 100000 in
theorem c_X7_isLetter (l : Launch) (D : va_G) (V : zz_V) (ad : Nat → Nat) (cA : Nat → ClassId) (a1 : Int32)  (σ : zg_S) (r0 : Int32) (σf : zg_S) (hf : f_X7_isLetter a1 σ = some (r0, σf)) : zM_I l yX7_isLetter wsX7_isLetter 1 25 D V ML ad cA [.ref (ad 0), .int a1] σ r0 σf := by
  intro sz
  refine Met.ofW (cc := cX7_isLetter) (maxL := 2) (ret := (some .boolean)) (by decide) rfl ?_
  intro p e s m args below meth c s₁ B hml hv
  obtain ⟨rfl, hC⟩ := hv
  have hx := B.exec
  have hb := B.bytes
  have hr := B.returns
  have hts := atoms_spec (ws := wsX7_isLetter) B.pre
  have hown : s.vm.findClass RX7 = some m.cls := findClass_of_methodNamed B.named
  have hlk := B.notSynchronized
  have X : CallFix p m c cX7_isLetter 2 s _ wsX7_isLetter RX7 := ⟨hx, hb, hml, hown, hts⟩
  have Z := zz_enter hC
  generalize va_A (zg_W ML ad cA σ) sz = A at Z ⊢
  have hl := lv_entry ([.ref (ad 0), .int a1]) (n := 2) (Nat.le_of_ble_eq_true rfl)
  rw [lg_entry_eq]
  generalize (lg_sl ([.ref (ad 0), .int a1]) ++ List.replicate (2 - (lg_sl ([.ref (ad 0), .int a1])).length) Slot.unset).toArray = ls at hl ⊢
  have hl : lv_has ls 2 [(0, .ref (ad 0)), (1, .int a1)] := hl
  unfold f_X7_isLetter at hf
  refine lv_iload_n hx hb dX7_isLetter_0 rfl (lv_at hl 1 rfl) ?_
  refine lv_aload_n hx hb dX7_isLetter_1 rfl (lv_at hl 0 rfl) ?_
  refine zy_get (v := .int (σ 0 14)) X Z mL_ok mk_0 rfl rfl (fun w h => List.mem_cons_of_mem _ (List.mem_append_right _ h)) 14 rfl (zz_m 1 rfl) rfl dX7_isLetter_2 ?_
  refine lv_icmp_ge (tgt := 31) hx hb dX7_isLetter_5 (by decide) (fun b1 => ?_) (fun b1 => ?_)
  · have hf2 := zYes hf b1
    clear hf
    refine lv_iconst (v := 0) hx hb dX7_isLetter_31 (by decide) ?_
    exact zy_zret X hr hlk Z (by decide) (zEnd hf2) dX7_isLetter_32
  · have hf3 := zNot hf b1
    clear hf
    refine lv_aload_n hx hb dX7_isLetter_8 rfl (lv_at hl 0 rfl) ?_
    refine zy_get (v := .ref (ad 13)) X Z mL_ok mk_0 rfl rfl (fun w h => List.mem_cons_of_mem _ (List.mem_append_right _ h)) 13 rfl (zz_m 2 rfl) rfl dX7_isLetter_9 ?_
    refine lv_iload_n hx hb dX7_isLetter_12 rfl (lv_at hl 1 rfl) ?_
    obtain ⟨⟨i4, j5⟩, hf6⟩ := zG hf3
    clear hf3
    refine zy_ild X Z mL_ok mk_13 ml_13 i4 dX7_isLetter_13 ?_
    refine lv_i2l (v := Int32.toInt64 (σ 13 (Int32.toNatClampNeg a1))) hx hb dX7_isLetter_14 rfl ?_
    refine lv_ldc2 (v := 97) hx hb hown (hts _ (zz_m 3 rfl)) dX7_isLetter_15 ?_
    refine zz_vl (v := Int32.toInt64 97) (by decide) ?_
    refine lv_ldc2 (v := 122) hx hb hown (hts _ (zz_m 4 rfl)) dX7_isLetter_18 ?_
    refine zz_vl (v := Int32.toInt64 122) (by decide) ?_
    obtain ⟨r7, σ8, hc9, hf10⟩ := zBd hf6
    clear hf6
    refine zy_ci (r0 := r7) (WS1 := zg_W ML ad cA σ8) (TYS1 := zg_T ML cA) Z (va_runS (As := [.long (Int32.toInt64 (σ 13 (Int32.toNatClampNeg a1))), .long (Int32.toInt64 97), .long (Int32.toInt64 122)]) (rest := []) X (c_X7_isIn l D V ad cA (Int32.toInt64 (σ 13 (Int32.toNatClampNeg a1))) (Int32.toInt64 97) (Int32.toInt64 122) σ r7 σ8 hc9 s.heap.size) (va_cwS 3 hts gX7_isLetter_X7_isIn rfl rfl rfl zh_X7_isIn ⟨Nat.le_of_ble_eq_true rfl, Nat.le_of_ble_eq_true rfl⟩) (zz_pS Z) rfl rfl hl.1 rfl (lv_room (Nat.le_of_ble_eq_true rfl)) dX7_isLetter_21 ⟨Nat.le_of_ble_eq_true rfl, Nat.le_of_ble_eq_true rfl⟩) (fun H11 lo12 Z13 => ?_)
    clear Z hc9
    refine lv_if_eq (tgt := 31) hx hb dX7_isLetter_24 (by decide) (fun b14 => ?_) (fun b14 => ?_)
    · have hf15 := zYes hf10 b14
      clear hf10
      refine lv_iconst (v := 0) hx hb dX7_isLetter_31 (by decide) ?_
      exact zy_zret X hr hlk Z13 (by decide) (zEnd hf15) dX7_isLetter_32
    · have hf16 := zNot hf10 b14
      clear hf10
      refine lv_iconst (v := 1) hx hb dX7_isLetter_27 (by decide) ?_
      refine lv_goto (tgt := 32) hx hb dX7_isLetter_28 (by decide) ?_
      exact zy_zret X hr hlk Z13 (by decide) (zEnd hf16) dX7_isLetter_32
def f_X7_isDigit (a1 : Int32) (σ : zg_S) : Option (Int32 × zg_S) := (if (σ 0 14) ≤ a1 then some (0, σ) else (if zin a1 96 = true then zbd (f_X7_isIn (Int32.toInt64 (σ 13 (Int32.toNatClampNeg a1))) (Int32.toInt64 48) (Int32.toInt64 57) σ) (fun (r7 : Int32) (σ8 : zg_S) => (if r7 = 0 then some (0, σ8) else some (1, σ8))) else none))
set_option maxHeartbeats 4000000 in
set_option maxRecDepth 100000 in
theorem c_X7_isDigit (l : Launch) (D : va_G) (V : zz_V) (ad : Nat → Nat) (cA : Nat → ClassId) (a1 : Int32)  (σ : zg_S) (r0 : Int32) (σf : zg_S) (hf : f_X7_isDigit a1 σ = some (r0, σf)) : zM_I l yX7_isDigit wsX7_isDigit 1 25 D V ML ad cA [.ref (ad 0), .int a1] σ r0 σf := by
  intro sz
  refine Met.ofW (cc := cX7_isDigit) (maxL := 2) (ret := (some .boolean)) (by decide) rfl ?_
  intro p e s m args below meth c s₁ B hml hv
  obtain ⟨rfl, hC⟩ := hv
  have hx := B.exec
  have hb := B.bytes
  have hr := B.returns
  have hts := atoms_spec (ws := wsX7_isDigit) B.pre
  have hown : s.vm.findClass RX7 = some m.cls := findClass_of_methodNamed B.named
  have hlk := B.notSynchronized
  have X : CallFix p m c cX7_isDigit 2 s _ wsX7_isDigit RX7 := ⟨hx, hb, hml, hown, hts⟩
  have Z := zz_enter hC
  generalize va_A (zg_W ML ad cA σ) sz = A at Z ⊢
  have hl := lv_entry ([.ref (ad 0), .int a1]) (n := 2) (Nat.le_of_ble_eq_true rfl)
  rw [lg_entry_eq]
  generalize (lg_sl ([.ref (ad 0), .int a1]) ++ List.replicate (2 - (lg_sl ([.ref (ad 0), .int a1])).length) Slot.unset).toArray = ls at hl ⊢
  have hl : lv_has ls 2 [(0, .ref (ad 0)), (1, .int a1)] := hl
  unfold f_X7_isDigit at hf
  refine lv_iload_n hx hb dX7_isDigit_0 rfl (lv_at hl 1 rfl) ?_
  refine lv_aload_n hx hb dX7_isDigit_1 rfl (lv_at hl 0 rfl) ?_
  refine zy_get (v := .int (σ 0 14)) X Z mL_ok mk_0 rfl rfl (fun w h => List.mem_cons_of_mem _ (List.mem_append_right _ h)) 14 rfl (zz_m 1 rfl) rfl dX7_isDigit_2 ?_
  refine lv_icmp_ge (tgt := 31) hx hb dX7_isDigit_5 (by decide) (fun b1 => ?_) (fun b1 => ?_)
  · have hf2 := zYes hf b1
    clear hf
    refine lv_iconst (v := 0) hx hb dX7_isDigit_31 (by decide) ?_
    exact zy_zret X hr hlk Z (by decide) (zEnd hf2) dX7_isDigit_32
  · have hf3 := zNot hf b1
    clear hf
    refine lv_aload_n hx hb dX7_isDigit_8 rfl (lv_at hl 0 rfl) ?_
    refine zy_get (v := .ref (ad 13)) X Z mL_ok mk_0 rfl rfl (fun w h => List.mem_cons_of_mem _ (List.mem_append_right _ h)) 13 rfl (zz_m 2 rfl) rfl dX7_isDigit_9 ?_
    refine lv_iload_n hx hb dX7_isDigit_12 rfl (lv_at hl 1 rfl) ?_
    obtain ⟨⟨i4, j5⟩, hf6⟩ := zG hf3
    clear hf3
    refine zy_ild X Z mL_ok mk_13 ml_13 i4 dX7_isDigit_13 ?_
    refine lv_i2l (v := Int32.toInt64 (σ 13 (Int32.toNatClampNeg a1))) hx hb dX7_isDigit_14 rfl ?_
    refine lv_ldc2 (v := 48) hx hb hown (hts _ (zz_m 3 rfl)) dX7_isDigit_15 ?_
    refine zz_vl (v := Int32.toInt64 48) (by decide) ?_
    refine lv_ldc2 (v := 57) hx hb hown (hts _ (zz_m 4 rfl)) dX7_isDigit_18 ?_
    refine zz_vl (v := Int32.toInt64 57) (by decide) ?_
    obtain ⟨r7, σ8, hc9, hf10⟩ := zBd hf6
    clear hf6
    refine zy_ci (r0 := r7) (WS1 := zg_W ML ad cA σ8) (TYS1 := zg_T ML cA) Z (va_runS (As := [.long (Int32.toInt64 (σ 13 (Int32.toNatClampNeg a1))), .long (Int32.toInt64 48), .long (Int32.toInt64 57)]) (rest := []) X (c_X7_isIn l D V ad cA (Int32.toInt64 (σ 13 (Int32.toNatClampNeg a1))) (Int32.toInt64 48) (Int32.toInt64 57) σ r7 σ8 hc9 s.heap.size) (va_cwS 3 hts gX7_isDigit_X7_isIn rfl rfl rfl zh_X7_isIn ⟨Nat.le_of_ble_eq_true rfl, Nat.le_of_ble_eq_true rfl⟩) (zz_pS Z) rfl rfl hl.1 rfl (lv_room (Nat.le_of_ble_eq_true rfl)) dX7_isDigit_21 ⟨Nat.le_of_ble_eq_true rfl, Nat.le_of_ble_eq_true rfl⟩) (fun H11 lo12 Z13 => ?_)
    clear Z hc9
    refine lv_if_eq (tgt := 31) hx hb dX7_isDigit_24 (by decide) (fun b14 => ?_) (fun b14 => ?_)
    · have hf15 := zYes hf10 b14
      clear hf10
      refine lv_iconst (v := 0) hx hb dX7_isDigit_31 (by decide) ?_
      exact zy_zret X hr hlk Z13 (by decide) (zEnd hf15) dX7_isDigit_32
    · have hf16 := zNot hf10 b14
      clear hf10
      refine lv_iconst (v := 1) hx hb dX7_isDigit_27 (by decide) ?_
      refine lv_goto (tgt := 32) hx hb dX7_isDigit_28 (by decide) ?_
      exact zy_zret X hr hlk Z13 (by decide) (zEnd hf16) dX7_isDigit_32
def B_X7_nextToken_300 (σ : zg_S) : Option (Int32 × zg_S) := zlet (zg_up σ 0 17 4) (fun (σ1 : zg_S) => some (0, σ1))
def B_X7_nextToken_266 (rec214_ : Int32 → zg_S → Option (Int32 × zg_S)) (x1 : Int32) (y0 : Int32) (σ : zg_S) : Option (Int32 × zg_S) := zlet (zg_up σ 0 18 y0) (fun (σ7 : zg_S) => zlet (zg_up σ7 0 16 ((σ7 0 16) + 1)) (fun (σ13 : zg_S) => rec214_ x1 σ13))
def B_X7_nextToken_214 (rec214_ : Int32 → zg_S → Option (Int32 × zg_S)) (x1 : Int32) (σ : zg_S) : Option (Int32 × zg_S) := zbd (f_X7_isDigit (σ 0 16) σ) (fun (r19 : Int32) (σ20 : zg_S) => (if r19 = 0 then (if x1 = 0 then (if ((σ20 0 16) - (σ20 0 15)) ≤ 4 then zlet (zg_up σ20 0 17 2) (fun (σ33 : zg_S) => some (0, σ33)) else B_X7_nextToken_300 σ20) else B_X7_nextToken_300 σ20) else (if 4 ≤ ((σ20 0 16) - (σ20 0 15)) then B_X7_nextToken_266 rec214_ x1 (σ20 0 18) σ20 else (if zin (σ20 0 16) 96 = true then B_X7_nextToken_266 rec214_ x1 (((10 * (σ20 0 18)) + (σ20 13 (Int32.toNatClampNeg (σ20 0 16)))) - 48) σ20 else none))))
def L_X7_nextToken_214 : Nat → Int32 → zg_S → Option (Int32 × zg_S) := zfix (fun _ _ => none) (B_X7_nextToken_214)
def B_X7_nextToken_162 (y0 : Int32) (σ : zg_S) : Option (Int32 × zg_S) := zlet (zg_up σ 0 17 y0) (fun (σ47 : zg_S) => (if ((σ47 0 16) - (σ47 0 15)) = 1 then (if zin (σ47 0 15) 96 = true then zlet (σ47 13 (Int32.toNatClampNeg (σ47 0 15))) (fun (y65 : Int32) => zlet (zg_up σ47 0 19 y65) (fun (σ68 : zg_S) => some (0, σ68))) else none) else zlet (zg_up σ47 0 19 0) (fun (σ55 : zg_S) => some (0, σ55))))
def B_X7_nextToken_128 (rec128_ : Int32 → zg_S → Option (Int32 × zg_S)) (x1 : Int32) (σ : zg_S) : Option (Int32 × zg_S) := zbd (f_X7_isLetter (σ 0 16) σ) (fun (r74 : Int32) (σ75 : zg_S) => (if r74 = 0 then (if x1 = 0 then B_X7_nextToken_162 1 σ75 else B_X7_nextToken_162 4 σ75) else zlet (zg_up σ75 0 16 ((σ75 0 16) + 1)) (fun (σ87 : zg_S) => rec128_ x1 σ87)))
def L_X7_nextToken_128 : Nat → Int32 → zg_S → Option (Int32 × zg_S) := zfix (fun _ _ => none) (B_X7_nextToken_128)
def B_X7_nextToken_89 (y0 : Int32) (σ : zg_S) : Option (Int32 × zg_S) := zlet (zg_up σ 0 15 (σ 0 16)) (fun (σ95 : zg_S) => (if (σ95 0 15) = (σ95 0 14) then zlet (zg_up σ95 0 17 0) (fun (σ154 : zg_S) => some (0, σ154)) else zbd (f_X7_isLetter (σ95 0 15) σ95) (fun (r103 : Int32) (σ104 : zg_S) => (if r103 = 0 then zbd (f_X7_isDigit (σ104 0 15) σ104) (fun (r112 : Int32) (σ113 : zg_S) => (if r112 = 0 then zlet (zg_up σ113 0 17 3) (fun (σ121 : zg_S) => (if zin (σ121 0 15) 96 = true then zlet (σ121 13 (Int32.toNatClampNeg (σ121 0 15))) (fun (y130 : Int32) => zlet (zg_up σ121 0 19 y130) (fun (σ133 : zg_S) => zlet (zg_up σ133 0 16 ((σ133 0 16) + 1)) (fun (σ139 : zg_S) => some (0, σ139)))) else none)) else zlet (zg_up σ113 0 18 0) (fun (σ146 : zg_S) => L_X7_nextToken_214 zfu y0 σ146))) else L_X7_nextToken_128 zfu y0 σ104))))
def B_X7_nextToken_88 (σ : zg_S) : Option (Int32 × zg_S) := B_X7_nextToken_89 0 σ
def B_X7_nextToken_72 (x1 : Int32) (x2 : Int32) (σ : zg_S) : Option (Int32 × zg_S) := (if x1 = 0 then B_X7_nextToken_88 σ else (if x2 = (σ 0 16) then B_X7_nextToken_89 1 σ else B_X7_nextToken_88 σ))
def B_X7_nextToken_34 (rec34_ : Int32 → Int32 → zg_S → Option (Int32 × zg_S)) (x1 : Int32) (x2 : Int32) (σ : zg_S) : Option (Int32 × zg_S) := (if (σ 0 14) ≤ (σ 0 16) then B_X7_nextToken_72 x1 x2 σ else (if zin (σ 0 16) 96 = true then (if (σ 13 (Int32.toNatClampNeg (σ 0 16))) = 32 then zlet (zg_up σ 0 16 ((σ 0 16) + 1)) (fun (σ175 : zg_S) => rec34_ x1 x2 σ175) else B_X7_nextToken_72 x1 x2 σ) else none))
def L_X7_nextToken_34 : Nat → Int32 → Int32 → zg_S → Option (Int32 × zg_S) := zfix (fun _ _ _ => none) (B_X7_nextToken_34)
def B_X7_nextToken_28 (y0 : Int32) (σ : zg_S) : Option (Int32 × zg_S) := L_X7_nextToken_34 zfu y0 (σ 0 16) σ
def B_X7_nextToken_27 (σ : zg_S) : Option (Int32 × zg_S) := B_X7_nextToken_28 0 σ
def B_X7_nextToken_23 (σ : zg_S) : Option (Int32 × zg_S) := B_X7_nextToken_28 1 σ
def f_X7_nextToken  (σ : zg_S) : Option (Int32 × zg_S) := (if (σ 0 16) ≤ 0 then B_X7_nextToken_27 σ else (if (σ 0 17) = 1 then B_X7_nextToken_23 σ else (if (σ 0 17) = 2 then B_X7_nextToken_23 σ else B_X7_nextToken_27 σ)))
set_option maxHeartbeats 4000000 in
set_option maxRecDepth 100000 in
theorem c_X7_nextToken (l : Launch) (D : va_G) (V : zz_V) (ad : Nat → Nat) (cA : Nat → ClassId)   (σ : zg_S) (r0 : Int32) (σf : zg_S) (hf : f_X7_nextToken  σ = some (r0, σf)) : zM_V l yX7_nextToken wsX7_nextToken 2 46 D V ML ad cA [.ref (ad 0)] σ r0 σf := by
  intro sz
  refine Met.ofW (cc := cX7_nextToken) (maxL := 3) (ret := none) (by decide) rfl ?_
  intro p e s m args below meth c s₁ B hml hv
  obtain ⟨rfl, hC⟩ := hv
  have hx := B.exec
  have hb := B.bytes
  have hr := B.returns
  have hts := atoms_spec (ws := wsX7_nextToken) B.pre
  have hown : s.vm.findClass RX7 = some m.cls := findClass_of_methodNamed B.named
  have hlk := B.notSynchronized
  have X : CallFix p m c cX7_nextToken 3 s _ wsX7_nextToken RX7 := ⟨hx, hb, hml, hown, hts⟩
  have Z := zz_enter hC
  generalize va_A (zg_W ML ad cA σ) sz = A at Z ⊢
  have hl := lv_entry ([.ref (ad 0)]) (n := 3) (Nat.le_of_ble_eq_true rfl)
  rw [lg_entry_eq]
  generalize (lg_sl ([.ref (ad 0)]) ++ List.replicate (3 - (lg_sl ([.ref (ad 0)])).length) Slot.unset).toArray = ls at hl ⊢
  have hl : lv_has ls 3 [(0, .ref (ad 0))] := hl
  unfold f_X7_nextToken at hf
  have b28_ : ∀ (y0 : Int32) (σ : zg_S), B_X7_nextToken_28 y0 σ = some (r0, σf) → ∀ (H : Heap) (locs : List Loc) (ls : Array Slot), zz_S D V A s (zg_W ML ad cA σ) (zg_T ML cA) H locs → lv_has ls 3 [(0, .ref (ad 0))] → W p l e (headSpec wsX7_nextToken { frames := 2, cells := 0, slots := 0, locals := 46 }).room s m (List.toArray [.ref (ad 0)]) below meth c H locs 0 0 (MQ below (va_Qv (fun (_ : Unit) => True) (fun _ t => zz_B D A (zg_W ML ad cA σf) (zg_T ML cA) t) A) (List.toArray [.ref (ad 0)]) s 0 0 A) (F0 m 28 ls [.int y0]) := by
    intro y0 σ hf28_ H28_ locs28_ ls28_ Z28_ hl28_
    unfold B_X7_nextToken_28 at hf28_
    have b34_ : ∀ (k34_ : Nat) (x1 : Int32) (x2 : Int32) (σ : zg_S), L_X7_nextToken_34 k34_ x1 x2 σ = some (r0, σf) → ∀ (H : Heap) (locs : List Loc) (ls : Array Slot), zz_S D V A s (zg_W ML ad cA σ) (zg_T ML cA) H locs → lv_has ls 3 [(0, .ref (ad 0)), (1, .int x1), (2, .int x2)] → W p l e (headSpec wsX7_nextToken { frames := 2, cells := 0, slots := 0, locals := 46 }).room s m (List.toArray [.ref (ad 0)]) below meth c H locs 0 0 (MQ below (va_Qv (fun (_ : Unit) => True) (fun _ t => zz_B D A (zg_W ML ad cA σf) (zg_T ML cA) t) A) (List.toArray [.ref (ad 0)]) s 0 0 A) (F0 m 34 ls []) := by
      intro k34_
      induction k34_ with
      | zero =>
          intro x1 x2 σ hf34_ H34_ locs34_ ls34_ Z34_ hl34_
          exact zNone hf34_
      | succ k34_ ih34_ =>
          intro x1 x2 σ hf34_ H34_ locs34_ ls34_ Z34_ hl34_
          replace hf34_ : B_X7_nextToken_34 (L_X7_nextToken_34 k34_) x1 x2 σ = some (r0, σf) := hf34_
          unfold B_X7_nextToken_34 at hf34_
          have b72_ : ∀ (x1 : Int32) (x2 : Int32) (σ : zg_S), B_X7_nextToken_72 x1 x2 σ = some (r0, σf) → ∀ (H : Heap) (locs : List Loc) (ls : Array Slot), zz_S D V A s (zg_W ML ad cA σ) (zg_T ML cA) H locs → lv_has ls 3 [(0, .ref (ad 0)), (1, .int x1), (2, .int x2)] → W p l e (headSpec wsX7_nextToken { frames := 2, cells := 0, slots := 0, locals := 46 }).room s m (List.toArray [.ref (ad 0)]) below meth c H locs 0 0 (MQ below (va_Qv (fun (_ : Unit) => True) (fun _ t => zz_B D A (zg_W ML ad cA σf) (zg_T ML cA) t) A) (List.toArray [.ref (ad 0)]) s 0 0 A) (F0 m 72 ls []) := by
            intro x1 x2 σ hf72_ H72_ locs72_ ls72_ Z72_ hl72_
            unfold B_X7_nextToken_72 at hf72_
            have b89_ : ∀ (y0 : Int32) (σ : zg_S), B_X7_nextToken_89 y0 σ = some (r0, σf) → ∀ (H : Heap) (locs : List Loc) (ls : Array Slot), zz_S D V A s (zg_W ML ad cA σ) (zg_T ML cA) H locs → lv_has ls 3 [(0, .ref (ad 0))] → W p l e (headSpec wsX7_nextToken { frames := 2, cells := 0, slots := 0, locals := 46 }).room s m (List.toArray [.ref (ad 0)]) below meth c H locs 0 0 (MQ below (va_Qv (fun (_ : Unit) => True) (fun _ t => zz_B D A (zg_W ML ad cA σf) (zg_T ML cA) t) A) (List.toArray [.ref (ad 0)]) s 0 0 A) (F0 m 89 ls [.int y0]) := by
              intro y0 σ hf89_ H89_ locs89_ ls89_ Z89_ hl89_
              unfold B_X7_nextToken_89 at hf89_
              have b214_ : ∀ (k214_ : Nat) (x1 : Int32) (σ : zg_S), L_X7_nextToken_214 k214_ x1 σ = some (r0, σf) → ∀ (H : Heap) (locs : List Loc) (ls : Array Slot), zz_S D V A s (zg_W ML ad cA σ) (zg_T ML cA) H locs → lv_has ls 3 [(0, .ref (ad 0)), (1, .int x1)] → W p l e (headSpec wsX7_nextToken { frames := 2, cells := 0, slots := 0, locals := 46 }).room s m (List.toArray [.ref (ad 0)]) below meth c H locs 0 0 (MQ below (va_Qv (fun (_ : Unit) => True) (fun _ t => zz_B D A (zg_W ML ad cA σf) (zg_T ML cA) t) A) (List.toArray [.ref (ad 0)]) s 0 0 A) (F0 m 214 ls []) := by
                intro k214_
                induction k214_ with
                | zero =>
                    intro x1 σ hf214_ H214_ locs214_ ls214_ Z214_ hl214_
                    exact zNone hf214_
                | succ k214_ ih214_ =>
                    intro x1 σ hf214_ H214_ locs214_ ls214_ Z214_ hl214_
                    replace hf214_ : B_X7_nextToken_214 (L_X7_nextToken_214 k214_) x1 σ = some (r0, σf) := hf214_
                    unfold B_X7_nextToken_214 at hf214_
                    have b300_ : ∀ (σ : zg_S), B_X7_nextToken_300  σ = some (r0, σf) → ∀ (H : Heap) (locs : List Loc) (ls : Array Slot), zz_S D V A s (zg_W ML ad cA σ) (zg_T ML cA) H locs → lv_has ls 3 [] → W p l e (headSpec wsX7_nextToken { frames := 2, cells := 0, slots := 0, locals := 46 }).room s m (List.toArray [.ref (ad 0)]) below meth c H locs 0 0 (MQ below (va_Qv (fun (_ : Unit) => True) (fun _ t => zz_B D A (zg_W ML ad cA σf) (zg_T ML cA) t) A) (List.toArray [.ref (ad 0)]) s 0 0 A) (F0 m 300 ls [.ref (ad 0)]) := by
                      intro σ hf300_ H300_ locs300_ ls300_ Z300_ hl300_
                      unfold B_X7_nextToken_300 at hf300_
                      refine lv_iconst (v := 4) hx hb dX7_nextToken_300 (by decide) ?_
                      refine lv_goto (tgt := 305) hx hb dX7_nextToken_301 (by decide) ?_
                      obtain ⟨σ1, es2, hf3⟩ := zLet hf300_
                      clear hf300_
                      refine zy_put (v := 4) (σ' := σ1) X Z300_ mL_ok mk_0 rfl rfl (fun w h => List.mem_cons_of_mem _ (List.mem_append_right _ h)) tyX7 tyX7_ok nmX7 17 rfl (zz_m 2 rfl) rfl rfl rfl (fun _ => rfl) (fun _ => rfl) es2 dX7_nextToken_305 (fun H4 lo5 Z6 => ?_)
                      clear Z300_ es2
                      refine lv_goto (tgt := 339) hx hb dX7_nextToken_308 (by decide) ?_
                      exact zy_vret X hr hlk Z6 (zEnd hf3) dX7_nextToken_339
                    have b266_ : ∀ (x1 : Int32) (y0 : Int32) (σ : zg_S), B_X7_nextToken_266 (L_X7_nextToken_214 k214_) x1 y0 σ = some (r0, σf) → ∀ (H : Heap) (locs : List Loc) (ls : Array Slot), zz_S D V A s (zg_W ML ad cA σ) (zg_T ML cA) H locs → lv_has ls 3 [(0, .ref (ad 0)), (1, .int x1)] → W p l e (headSpec wsX7_nextToken { frames := 2, cells := 0, slots := 0, locals := 46 }).room s m (List.toArray [.ref (ad 0)]) below meth c H locs 0 0 (MQ below (va_Qv (fun (_ : Unit) => True) (fun _ t => zz_B D A (zg_W ML ad cA σf) (zg_T ML cA) t) A) (List.toArray [.ref (ad 0)]) s 0 0 A) (F0 m 266 ls [.int y0, .ref (ad 0)]) := by
                      intro x1 y0 σ hf266_ H266_ locs266_ ls266_ Z266_ hl266_
                      unfold B_X7_nextToken_266 at hf266_
                      obtain ⟨σ7, es8, hf9⟩ := zLet hf266_
                      clear hf266_
                      refine zy_put (v := y0) (σ' := σ7) X Z266_ mL_ok mk_0 rfl rfl (fun w h => List.mem_cons_of_mem _ (List.mem_append_right _ h)) tyX7 tyX7_ok nmX7 18 rfl (zz_m 7 rfl) rfl rfl rfl (fun _ => rfl) (fun _ => rfl) es8 dX7_nextToken_266 (fun H10 lo11 Z12 => ?_)
                      clear Z266_ es8
                      refine lv_aload_n hx hb dX7_nextToken_269 rfl (lv_at hl266_ 0 rfl) ?_
                      refine lv_dup hx hb dX7_nextToken_270 rfl ?_
                      refine zy_get (v := .int (σ7 0 16)) X Z12 mL_ok mk_0 rfl rfl (fun w h => List.mem_cons_of_mem _ (List.mem_append_right _ h)) 16 rfl (zz_m 1 rfl) rfl dX7_nextToken_271 ?_
                      refine lv_iconst (v := 1) hx hb dX7_nextToken_274 (by decide) ?_
                      refine lv_iadd hx hb dX7_nextToken_275 ?_
                      obtain ⟨σ13, es14, hf15⟩ := zLet hf9
                      clear hf9
                      refine zy_put (v := (σ7 0 16) + 1) (σ' := σ13) X Z12 mL_ok mk_0 rfl rfl (fun w h => List.mem_cons_of_mem _ (List.mem_append_right _ h)) tyX7 tyX7_ok nmX7 16 rfl (zz_m 1 rfl) rfl rfl rfl (fun _ => rfl) (fun _ => rfl) es14 dX7_nextToken_276 (fun H16 lo17 Z18 => ?_)
                      clear Z12 es14
                      refine lv_goto (tgt := 214) hx hb dX7_nextToken_279 (by decide) ?_
                      exact ih214_ x1 σ13 hf15 _ _ _ Z18 (lv_sub hl266_ [0, 1] rfl)
                    refine lv_aload_n hx hb dX7_nextToken_214 rfl (lv_at hl214_ 0 rfl) ?_
                    refine lv_aload_n hx hb dX7_nextToken_215 rfl (lv_at hl214_ 0 rfl) ?_
                    refine zy_get (v := .int (σ 0 16)) X Z214_ mL_ok mk_0 rfl rfl (fun w h => List.mem_cons_of_mem _ (List.mem_append_right _ h)) 16 rfl (zz_m 1 rfl) rfl dX7_nextToken_216 ?_
                    obtain ⟨r19, σ20, hc21, hf22⟩ := zBd hf214_
                    clear hf214_
                    refine zy_ci (r0 := r19) (WS1 := zg_W ML ad cA σ20) (TYS1 := zg_T ML cA) Z214_ (va_runV (As := [.int (σ 0 16)]) (rest := []) X (c_X7_isDigit l D V ad cA (σ 0 16) σ r19 σ20 hc21 H214_.size) (cwV 1 hts gX7_nextToken_X7_isDigit rfl rfl rfl ⟨rfl, zh_X7_isDigit⟩ ⟨Nat.le_of_ble_eq_true rfl, Nat.le_of_ble_eq_true rfl⟩) (zy_pV (ci := 7) Z214_ mL_ok mk_0 rfl rfl) rfl rfl hl214_.1 rfl (lv_room (Nat.le_of_ble_eq_true rfl)) dX7_nextToken_219 ⟨Nat.le_of_ble_eq_true rfl, Nat.le_of_ble_eq_true rfl⟩) (fun H23 lo24 Z25 => ?_)
                    clear Z214_ hc21
                    refine lv_if_eq (tgt := 282) hx hb dX7_nextToken_222 (by decide) (fun b26 => ?_) (fun b26 => ?_)
                    · have hf27 := zYes hf22 b26
                      clear hf22
                      refine lv_aload_n hx hb dX7_nextToken_282 rfl (lv_at hl214_ 0 rfl) ?_
                      refine lv_iload_n hx hb dX7_nextToken_283 rfl (lv_at hl214_ 1 rfl) ?_
                      refine lv_if_ne (tgt := 300) hx hb dX7_nextToken_284 (by decide) (fun b28 => ?_) (fun b28 => ?_)
                      · have hf29 := zNot hf27 b28
                        clear hf27
                        exact b300_ σ20 hf29 _ _ _ Z25 (lv_sub hl214_ [] rfl)
                      · have hf30 := zYes hf27 b28
                        clear hf27
                        refine lv_aload_n hx hb dX7_nextToken_287 rfl (lv_at hl214_ 0 rfl) ?_
                        refine zy_get (v := .int (σ20 0 16)) X Z25 mL_ok mk_0 rfl rfl (fun w h => List.mem_cons_of_mem _ (List.mem_append_right _ h)) 16 rfl (zz_m 1 rfl) rfl dX7_nextToken_288 ?_
                        refine lv_aload_n hx hb dX7_nextToken_291 rfl (lv_at hl214_ 0 rfl) ?_
                        refine zy_get (v := .int (σ20 0 15)) X Z25 mL_ok mk_0 rfl rfl (fun w h => List.mem_cons_of_mem _ (List.mem_append_right _ h)) 15 rfl (zz_m 5 rfl) rfl dX7_nextToken_292 ?_
                        refine lv_isub hx hb dX7_nextToken_295 ?_
                        refine lv_iconst (v := 4) hx hb dX7_nextToken_296 (by decide) ?_
                        refine lv_icmp_le (tgt := 304) hx hb dX7_nextToken_297 (by decide) (fun b31 => ?_) (fun b31 => ?_)
                        · have hf32 := zYes hf30 b31
                          clear hf30
                          refine lv_iconst (v := 2) hx hb dX7_nextToken_304 (by decide) ?_
                          obtain ⟨σ33, es34, hf35⟩ := zLet hf32
                          clear hf32
                          refine zy_put (v := 2) (σ' := σ33) X Z25 mL_ok mk_0 rfl rfl (fun w h => List.mem_cons_of_mem _ (List.mem_append_right _ h)) tyX7 tyX7_ok nmX7 17 rfl (zz_m 2 rfl) rfl rfl rfl (fun _ => rfl) (fun _ => rfl) es34 dX7_nextToken_305 (fun H36 lo37 Z38 => ?_)
                          clear Z25 es34
                          refine lv_goto (tgt := 339) hx hb dX7_nextToken_308 (by decide) ?_
                          exact zy_vret X hr hlk Z38 (zEnd hf35) dX7_nextToken_339
                        · have hf39 := zNot hf30 b31
                          clear hf30
                          exact b300_ σ20 hf39 _ _ _ Z25 (lv_sub hl214_ [] rfl)
                    · have hf40 := zNot hf22 b26
                      clear hf22
                      refine lv_aload_n hx hb dX7_nextToken_225 rfl (lv_at hl214_ 0 rfl) ?_
                      refine lv_aload_n hx hb dX7_nextToken_226 rfl (lv_at hl214_ 0 rfl) ?_
                      refine zy_get (v := .int (σ20 0 16)) X Z25 mL_ok mk_0 rfl rfl (fun w h => List.mem_cons_of_mem _ (List.mem_append_right _ h)) 16 rfl (zz_m 1 rfl) rfl dX7_nextToken_227 ?_
                      refine lv_aload_n hx hb dX7_nextToken_230 rfl (lv_at hl214_ 0 rfl) ?_
                      refine zy_get (v := .int (σ20 0 15)) X Z25 mL_ok mk_0 rfl rfl (fun w h => List.mem_cons_of_mem _ (List.mem_append_right _ h)) 15 rfl (zz_m 5 rfl) rfl dX7_nextToken_231 ?_
                      refine lv_isub hx hb dX7_nextToken_234 ?_
                      refine lv_iconst (v := 4) hx hb dX7_nextToken_235 (by decide) ?_
                      refine lv_icmp_ge (tgt := 262) hx hb dX7_nextToken_236 (by decide) (fun b41 => ?_) (fun b41 => ?_)
                      · have hf42 := zYes hf40 b41
                        clear hf40
                        refine lv_aload_n hx hb dX7_nextToken_262 rfl (lv_at hl214_ 0 rfl) ?_
                        refine zy_get (v := .int (σ20 0 18)) X Z25 mL_ok mk_0 rfl rfl (fun w h => List.mem_cons_of_mem _ (List.mem_append_right _ h)) 18 rfl (zz_m 7 rfl) rfl dX7_nextToken_263 ?_
                        exact b266_ x1 (σ20 0 18) σ20 hf42 _ _ _ Z25 (lv_sub hl214_ [0, 1] rfl)
                      · have hf43 := zNot hf40 b41
                        clear hf40
                        refine lv_bipush (v := 10) hx hb dX7_nextToken_239 (by decide) ?_
                        refine lv_aload_n hx hb dX7_nextToken_241 rfl (lv_at hl214_ 0 rfl) ?_
                        refine zy_get (v := .int (σ20 0 18)) X Z25 mL_ok mk_0 rfl rfl (fun w h => List.mem_cons_of_mem _ (List.mem_append_right _ h)) 18 rfl (zz_m 7 rfl) rfl dX7_nextToken_242 ?_
                        refine lv_imul hx hb dX7_nextToken_245 ?_
                        refine lv_aload_n hx hb dX7_nextToken_246 rfl (lv_at hl214_ 0 rfl) ?_
                        refine zy_get (v := .ref (ad 13)) X Z25 mL_ok mk_0 rfl rfl (fun w h => List.mem_cons_of_mem _ (List.mem_append_right _ h)) 13 rfl (zz_m 4 rfl) rfl dX7_nextToken_247 ?_
                        refine lv_aload_n hx hb dX7_nextToken_250 rfl (lv_at hl214_ 0 rfl) ?_
                        refine zy_get (v := .int (σ20 0 16)) X Z25 mL_ok mk_0 rfl rfl (fun w h => List.mem_cons_of_mem _ (List.mem_append_right _ h)) 16 rfl (zz_m 1 rfl) rfl dX7_nextToken_251 ?_
                        obtain ⟨⟨i44, j45⟩, hf46⟩ := zG hf43
                        clear hf43
                        refine zy_ild X Z25 mL_ok mk_13 ml_13 i44 dX7_nextToken_254 ?_
                        refine lv_iadd hx hb dX7_nextToken_255 ?_
                        refine lv_bipush (v := 48) hx hb dX7_nextToken_256 (by decide) ?_
                        refine lv_isub hx hb dX7_nextToken_258 ?_
                        refine lv_goto (tgt := 266) hx hb dX7_nextToken_259 (by decide) ?_
                        exact b266_ x1 (((10 * (σ20 0 18)) + (σ20 13 (Int32.toNatClampNeg (σ20 0 16)))) - 48) σ20 hf46 _ _ _ Z25 (lv_sub hl214_ [0, 1] rfl)
              have b128_ : ∀ (k128_ : Nat) (x1 : Int32) (σ : zg_S), L_X7_nextToken_128 k128_ x1 σ = some (r0, σf) → ∀ (H : Heap) (locs : List Loc) (ls : Array Slot), zz_S D V A s (zg_W ML ad cA σ) (zg_T ML cA) H locs → lv_has ls 3 [(0, .ref (ad 0)), (1, .int x1)] → W p l e (headSpec wsX7_nextToken { frames := 2, cells := 0, slots := 0, locals := 46 }).room s m (List.toArray [.ref (ad 0)]) below meth c H locs 0 0 (MQ below (va_Qv (fun (_ : Unit) => True) (fun _ t => zz_B D A (zg_W ML ad cA σf) (zg_T ML cA) t) A) (List.toArray [.ref (ad 0)]) s 0 0 A) (F0 m 128 ls []) := by
                intro k128_
                induction k128_ with
                | zero =>
                    intro x1 σ hf128_ H128_ locs128_ ls128_ Z128_ hl128_
                    exact zNone hf128_
                | succ k128_ ih128_ =>
                    intro x1 σ hf128_ H128_ locs128_ ls128_ Z128_ hl128_
                    replace hf128_ : B_X7_nextToken_128 (L_X7_nextToken_128 k128_) x1 σ = some (r0, σf) := hf128_
                    unfold B_X7_nextToken_128 at hf128_
                    have b162_ : ∀ (y0 : Int32) (σ : zg_S), B_X7_nextToken_162 y0 σ = some (r0, σf) → ∀ (H : Heap) (locs : List Loc) (ls : Array Slot), zz_S D V A s (zg_W ML ad cA σ) (zg_T ML cA) H locs → lv_has ls 3 [(0, .ref (ad 0))] → W p l e (headSpec wsX7_nextToken { frames := 2, cells := 0, slots := 0, locals := 46 }).room s m (List.toArray [.ref (ad 0)]) below meth c H locs 0 0 (MQ below (va_Qv (fun (_ : Unit) => True) (fun _ t => zz_B D A (zg_W ML ad cA σf) (zg_T ML cA) t) A) (List.toArray [.ref (ad 0)]) s 0 0 A) (F0 m 162 ls [.int y0, .ref (ad 0)]) := by
                      intro y0 σ hf162_ H162_ locs162_ ls162_ Z162_ hl162_
                      unfold B_X7_nextToken_162 at hf162_
                      obtain ⟨σ47, es48, hf49⟩ := zLet hf162_
                      clear hf162_
                      refine zy_put (v := y0) (σ' := σ47) X Z162_ mL_ok mk_0 rfl rfl (fun w h => List.mem_cons_of_mem _ (List.mem_append_right _ h)) tyX7 tyX7_ok nmX7 17 rfl (zz_m 2 rfl) rfl rfl rfl (fun _ => rfl) (fun _ => rfl) es48 dX7_nextToken_162 (fun H50 lo51 Z52 => ?_)
                      clear Z162_ es48
                      refine lv_aload_n hx hb dX7_nextToken_165 rfl (lv_at hl162_ 0 rfl) ?_
                      refine lv_aload_n hx hb dX7_nextToken_166 rfl (lv_at hl162_ 0 rfl) ?_
                      refine zy_get (v := .int (σ47 0 16)) X Z52 mL_ok mk_0 rfl rfl (fun w h => List.mem_cons_of_mem _ (List.mem_append_right _ h)) 16 rfl (zz_m 1 rfl) rfl dX7_nextToken_167 ?_
                      refine lv_aload_n hx hb dX7_nextToken_170 rfl (lv_at hl162_ 0 rfl) ?_
                      refine zy_get (v := .int (σ47 0 15)) X Z52 mL_ok mk_0 rfl rfl (fun w h => List.mem_cons_of_mem _ (List.mem_append_right _ h)) 15 rfl (zz_m 5 rfl) rfl dX7_nextToken_171 ?_
                      refine lv_isub hx hb dX7_nextToken_174 ?_
                      refine lv_iconst (v := 1) hx hb dX7_nextToken_175 (by decide) ?_
                      refine lv_icmp_ne (tgt := 191) hx hb dX7_nextToken_176 (by decide) (fun b53 => ?_) (fun b53 => ?_)
                      · have hf54 := zNot hf49 b53
                        clear hf49
                        refine lv_iconst (v := 0) hx hb dX7_nextToken_191 (by decide) ?_
                        obtain ⟨σ55, es56, hf57⟩ := zLet hf54
                        clear hf54
                        refine zy_put (v := 0) (σ' := σ55) X Z52 mL_ok mk_0 rfl rfl (fun w h => List.mem_cons_of_mem _ (List.mem_append_right _ h)) tyX7 tyX7_ok nmX7 19 rfl (zz_m 6 rfl) rfl rfl rfl (fun _ => rfl) (fun _ => rfl) es56 dX7_nextToken_192 (fun H58 lo59 Z60 => ?_)
                        clear Z52 es56
                        refine lv_goto (tgt := 339) hx hb dX7_nextToken_195 (by decide) ?_
                        exact zy_vret X hr hlk Z60 (zEnd hf57) dX7_nextToken_339
                      · have hf61 := zYes hf49 b53
                        clear hf49
                        refine lv_aload_n hx hb dX7_nextToken_179 rfl (lv_at hl162_ 0 rfl) ?_
                        refine zy_get (v := .ref (ad 13)) X Z52 mL_ok mk_0 rfl rfl (fun w h => List.mem_cons_of_mem _ (List.mem_append_right _ h)) 13 rfl (zz_m 4 rfl) rfl dX7_nextToken_180 ?_
                        refine lv_aload_n hx hb dX7_nextToken_183 rfl (lv_at hl162_ 0 rfl) ?_
                        refine zy_get (v := .int (σ47 0 15)) X Z52 mL_ok mk_0 rfl rfl (fun w h => List.mem_cons_of_mem _ (List.mem_append_right _ h)) 15 rfl (zz_m 5 rfl) rfl dX7_nextToken_184 ?_
                        obtain ⟨⟨i62, j63⟩, hf64⟩ := zG hf61
                        clear hf61
                        refine zy_ild X Z52 mL_ok mk_13 ml_13 i62 dX7_nextToken_187 ?_
                        refine lv_goto (tgt := 192) hx hb dX7_nextToken_188 (by decide) ?_
                        obtain ⟨y65, ey66, hf67⟩ := zLet hf64
                        clear hf64
                        refine zz_v (v := y65) ey66.symm ?_
                        clear ey66
                        obtain ⟨σ68, es69, hf70⟩ := zLet hf67
                        clear hf67
                        refine zy_put (v := y65) (σ' := σ68) X Z52 mL_ok mk_0 rfl rfl (fun w h => List.mem_cons_of_mem _ (List.mem_append_right _ h)) tyX7 tyX7_ok nmX7 19 rfl (zz_m 6 rfl) rfl rfl rfl (fun _ => rfl) (fun _ => rfl) es69 dX7_nextToken_192 (fun H71 lo72 Z73 => ?_)
                        clear Z52 es69
                        refine lv_goto (tgt := 339) hx hb dX7_nextToken_195 (by decide) ?_
                        exact zy_vret X hr hlk Z73 (zEnd hf70) dX7_nextToken_339
                    refine lv_aload_n hx hb dX7_nextToken_128 rfl (lv_at hl128_ 0 rfl) ?_
                    refine lv_aload_n hx hb dX7_nextToken_129 rfl (lv_at hl128_ 0 rfl) ?_
                    refine zy_get (v := .int (σ 0 16)) X Z128_ mL_ok mk_0 rfl rfl (fun w h => List.mem_cons_of_mem _ (List.mem_append_right _ h)) 16 rfl (zz_m 1 rfl) rfl dX7_nextToken_130 ?_
                    obtain ⟨r74, σ75, hc76, hf77⟩ := zBd hf128_
                    clear hf128_
                    refine zy_ci (r0 := r74) (WS1 := zg_W ML ad cA σ75) (TYS1 := zg_T ML cA) Z128_ (va_runV (As := [.int (σ 0 16)]) (rest := []) X (c_X7_isLetter l D V ad cA (σ 0 16) σ r74 σ75 hc76 H128_.size) (cwV 1 hts gX7_nextToken_X7_isLetter rfl rfl rfl ⟨rfl, zh_X7_isLetter⟩ ⟨Nat.le_of_ble_eq_true rfl, Nat.le_of_ble_eq_true rfl⟩) (zy_pV (ci := 7) Z128_ mL_ok mk_0 rfl rfl) rfl rfl hl128_.1 rfl (lv_room (Nat.le_of_ble_eq_true rfl)) dX7_nextToken_133 ⟨Nat.le_of_ble_eq_true rfl, Nat.le_of_ble_eq_true rfl⟩) (fun H78 lo79 Z80 => ?_)
                    clear Z128_ hc76
                    refine lv_if_eq (tgt := 152) hx hb dX7_nextToken_136 (by decide) (fun b81 => ?_) (fun b81 => ?_)
                    · have hf82 := zYes hf77 b81
                      clear hf77
                      refine lv_aload_n hx hb dX7_nextToken_152 rfl (lv_at hl128_ 0 rfl) ?_
                      refine lv_iload_n hx hb dX7_nextToken_153 rfl (lv_at hl128_ 1 rfl) ?_
                      refine lv_if_eq (tgt := 161) hx hb dX7_nextToken_154 (by decide) (fun b83 => ?_) (fun b83 => ?_)
                      · have hf84 := zYes hf82 b83
                        clear hf82
                        refine lv_iconst (v := 1) hx hb dX7_nextToken_161 (by decide) ?_
                        exact b162_ 1 σ75 hf84 _ _ _ Z80 (lv_sub hl128_ [0] rfl)
                      · have hf85 := zNot hf82 b83
                        clear hf82
                        refine lv_iconst (v := 4) hx hb dX7_nextToken_157 (by decide) ?_
                        refine lv_goto (tgt := 162) hx hb dX7_nextToken_158 (by decide) ?_
                        exact b162_ 4 σ75 hf85 _ _ _ Z80 (lv_sub hl128_ [0] rfl)
                    · have hf86 := zNot hf77 b81
                      clear hf77
                      refine lv_aload_n hx hb dX7_nextToken_139 rfl (lv_at hl128_ 0 rfl) ?_
                      refine lv_dup hx hb dX7_nextToken_140 rfl ?_
                      refine zy_get (v := .int (σ75 0 16)) X Z80 mL_ok mk_0 rfl rfl (fun w h => List.mem_cons_of_mem _ (List.mem_append_right _ h)) 16 rfl (zz_m 1 rfl) rfl dX7_nextToken_141 ?_
                      refine lv_iconst (v := 1) hx hb dX7_nextToken_144 (by decide) ?_
                      refine lv_iadd hx hb dX7_nextToken_145 ?_
                      obtain ⟨σ87, es88, hf89⟩ := zLet hf86
                      clear hf86
                      refine zy_put (v := (σ75 0 16) + 1) (σ' := σ87) X Z80 mL_ok mk_0 rfl rfl (fun w h => List.mem_cons_of_mem _ (List.mem_append_right _ h)) tyX7 tyX7_ok nmX7 16 rfl (zz_m 1 rfl) rfl rfl rfl (fun _ => rfl) (fun _ => rfl) es88 dX7_nextToken_146 (fun H90 lo91 Z92 => ?_)
                      clear Z80 es88
                      refine lv_goto (tgt := 128) hx hb dX7_nextToken_149 (by decide) ?_
                      exact ih128_ x1 σ87 hf89 _ _ _ Z92 (lv_sub hl128_ [0, 1] rfl)
              refine lv_istore_n (lv' := [(1, .int y0), (0, .ref (ad 0))]) hx hb dX7_nextToken_89 rfl hl89_ (by decide) rfl (fun ls94 hl93 => ?_)
              clear hl89_
              refine lv_aload_n hx hb dX7_nextToken_90 rfl (lv_at hl93 1 rfl) ?_
              refine lv_aload_n hx hb dX7_nextToken_91 rfl (lv_at hl93 1 rfl) ?_
              refine zy_get (v := .int (σ 0 16)) X Z89_ mL_ok mk_0 rfl rfl (fun w h => List.mem_cons_of_mem _ (List.mem_append_right _ h)) 16 rfl (zz_m 1 rfl) rfl dX7_nextToken_92 ?_
              obtain ⟨σ95, es96, hf97⟩ := zLet hf89_
              clear hf89_
              refine zy_put (v := σ 0 16) (σ' := σ95) X Z89_ mL_ok mk_0 rfl rfl (fun w h => List.mem_cons_of_mem _ (List.mem_append_right _ h)) tyX7 tyX7_ok nmX7 15 rfl (zz_m 5 rfl) rfl rfl rfl (fun _ => rfl) (fun _ => rfl) es96 dX7_nextToken_95 (fun H98 lo99 Z100 => ?_)
              clear Z89_ es96
              refine lv_aload_n hx hb dX7_nextToken_98 rfl (lv_at hl93 1 rfl) ?_
              refine zy_get (v := .int (σ95 0 15)) X Z100 mL_ok mk_0 rfl rfl (fun w h => List.mem_cons_of_mem _ (List.mem_append_right _ h)) 15 rfl (zz_m 5 rfl) rfl dX7_nextToken_99 ?_
              refine lv_aload_n hx hb dX7_nextToken_102 rfl (lv_at hl93 1 rfl) ?_
              refine zy_get (v := .int (σ95 0 14)) X Z100 mL_ok mk_0 rfl rfl (fun w h => List.mem_cons_of_mem _ (List.mem_append_right _ h)) 14 rfl (zz_m 3 rfl) rfl dX7_nextToken_103 ?_
              refine lv_icmp_ne (tgt := 117) hx hb dX7_nextToken_106 (by decide) (fun b101 => ?_) (fun b101 => ?_)
              · have hf102 := zNot hf97 b101
                clear hf97
                refine lv_aload_n hx hb dX7_nextToken_117 rfl (lv_at hl93 1 rfl) ?_
                refine lv_aload_n hx hb dX7_nextToken_118 rfl (lv_at hl93 1 rfl) ?_
                refine zy_get (v := .int (σ95 0 15)) X Z100 mL_ok mk_0 rfl rfl (fun w h => List.mem_cons_of_mem _ (List.mem_append_right _ h)) 15 rfl (zz_m 5 rfl) rfl dX7_nextToken_119 ?_
                obtain ⟨r103, σ104, hc105, hf106⟩ := zBd hf102
                clear hf102
                refine zy_ci (r0 := r103) (WS1 := zg_W ML ad cA σ104) (TYS1 := zg_T ML cA) Z100 (va_runV (As := [.int (σ95 0 15)]) (rest := []) X (c_X7_isLetter l D V ad cA (σ95 0 15) σ95 r103 σ104 hc105 H98.size) (cwV 1 hts gX7_nextToken_X7_isLetter rfl rfl rfl ⟨rfl, zh_X7_isLetter⟩ ⟨Nat.le_of_ble_eq_true rfl, Nat.le_of_ble_eq_true rfl⟩) (zy_pV (ci := 7) Z100 mL_ok mk_0 rfl rfl) rfl rfl hl93.1 rfl (lv_room (Nat.le_of_ble_eq_true rfl)) dX7_nextToken_122 ⟨Nat.le_of_ble_eq_true rfl, Nat.le_of_ble_eq_true rfl⟩) (fun H107 lo108 Z109 => ?_)
                clear Z100 hc105
                refine lv_if_eq (tgt := 198) hx hb dX7_nextToken_125 (by decide) (fun b110 => ?_) (fun b110 => ?_)
                · have hf111 := zYes hf106 b110
                  clear hf106
                  refine lv_aload_n hx hb dX7_nextToken_198 rfl (lv_at hl93 1 rfl) ?_
                  refine lv_aload_n hx hb dX7_nextToken_199 rfl (lv_at hl93 1 rfl) ?_
                  refine zy_get (v := .int (σ104 0 15)) X Z109 mL_ok mk_0 rfl rfl (fun w h => List.mem_cons_of_mem _ (List.mem_append_right _ h)) 15 rfl (zz_m 5 rfl) rfl dX7_nextToken_200 ?_
                  obtain ⟨r112, σ113, hc114, hf115⟩ := zBd hf111
                  clear hf111
                  refine zy_ci (r0 := r112) (WS1 := zg_W ML ad cA σ113) (TYS1 := zg_T ML cA) Z109 (va_runV (As := [.int (σ104 0 15)]) (rest := []) X (c_X7_isDigit l D V ad cA (σ104 0 15) σ104 r112 σ113 hc114 H107.size) (cwV 1 hts gX7_nextToken_X7_isDigit rfl rfl rfl ⟨rfl, zh_X7_isDigit⟩ ⟨Nat.le_of_ble_eq_true rfl, Nat.le_of_ble_eq_true rfl⟩) (zy_pV (ci := 7) Z109 mL_ok mk_0 rfl rfl) rfl rfl hl93.1 rfl (lv_room (Nat.le_of_ble_eq_true rfl)) dX7_nextToken_203 ⟨Nat.le_of_ble_eq_true rfl, Nat.le_of_ble_eq_true rfl⟩) (fun H116 lo117 Z118 => ?_)
                  clear Z109 hc114
                  refine lv_if_eq (tgt := 311) hx hb dX7_nextToken_206 (by decide) (fun b119 => ?_) (fun b119 => ?_)
                  · have hf120 := zYes hf115 b119
                    clear hf115
                    refine lv_aload_n hx hb dX7_nextToken_311 rfl (lv_at hl93 1 rfl) ?_
                    refine lv_iconst (v := 3) hx hb dX7_nextToken_312 (by decide) ?_
                    obtain ⟨σ121, es122, hf123⟩ := zLet hf120
                    clear hf120
                    refine zy_put (v := 3) (σ' := σ121) X Z118 mL_ok mk_0 rfl rfl (fun w h => List.mem_cons_of_mem _ (List.mem_append_right _ h)) tyX7 tyX7_ok nmX7 17 rfl (zz_m 2 rfl) rfl rfl rfl (fun _ => rfl) (fun _ => rfl) es122 dX7_nextToken_313 (fun H124 lo125 Z126 => ?_)
                    clear Z118 es122
                    refine lv_aload_n hx hb dX7_nextToken_316 rfl (lv_at hl93 1 rfl) ?_
                    refine lv_aload_n hx hb dX7_nextToken_317 rfl (lv_at hl93 1 rfl) ?_
                    refine zy_get (v := .ref (ad 13)) X Z126 mL_ok mk_0 rfl rfl (fun w h => List.mem_cons_of_mem _ (List.mem_append_right _ h)) 13 rfl (zz_m 4 rfl) rfl dX7_nextToken_318 ?_
                    refine lv_aload_n hx hb dX7_nextToken_321 rfl (lv_at hl93 1 rfl) ?_
                    refine zy_get (v := .int (σ121 0 15)) X Z126 mL_ok mk_0 rfl rfl (fun w h => List.mem_cons_of_mem _ (List.mem_append_right _ h)) 15 rfl (zz_m 5 rfl) rfl dX7_nextToken_322 ?_
                    obtain ⟨⟨i127, j128⟩, hf129⟩ := zG hf123
                    clear hf123
                    refine zy_ild X Z126 mL_ok mk_13 ml_13 i127 dX7_nextToken_325 ?_
                    obtain ⟨y130, ey131, hf132⟩ := zLet hf129
                    clear hf129
                    refine zz_v (v := y130) ey131.symm ?_
                    clear ey131
                    obtain ⟨σ133, es134, hf135⟩ := zLet hf132
                    clear hf132
                    refine zy_put (v := y130) (σ' := σ133) X Z126 mL_ok mk_0 rfl rfl (fun w h => List.mem_cons_of_mem _ (List.mem_append_right _ h)) tyX7 tyX7_ok nmX7 19 rfl (zz_m 6 rfl) rfl rfl rfl (fun _ => rfl) (fun _ => rfl) es134 dX7_nextToken_326 (fun H136 lo137 Z138 => ?_)
                    clear Z126 es134
                    refine lv_aload_n hx hb dX7_nextToken_329 rfl (lv_at hl93 1 rfl) ?_
                    refine lv_dup hx hb dX7_nextToken_330 rfl ?_
                    refine zy_get (v := .int (σ133 0 16)) X Z138 mL_ok mk_0 rfl rfl (fun w h => List.mem_cons_of_mem _ (List.mem_append_right _ h)) 16 rfl (zz_m 1 rfl) rfl dX7_nextToken_331 ?_
                    refine lv_iconst (v := 1) hx hb dX7_nextToken_334 (by decide) ?_
                    refine lv_iadd hx hb dX7_nextToken_335 ?_
                    obtain ⟨σ139, es140, hf141⟩ := zLet hf135
                    clear hf135
                    refine zy_put (v := (σ133 0 16) + 1) (σ' := σ139) X Z138 mL_ok mk_0 rfl rfl (fun w h => List.mem_cons_of_mem _ (List.mem_append_right _ h)) tyX7 tyX7_ok nmX7 16 rfl (zz_m 1 rfl) rfl rfl rfl (fun _ => rfl) (fun _ => rfl) es140 dX7_nextToken_336 (fun H142 lo143 Z144 => ?_)
                    clear Z138 es140
                    exact zy_vret X hr hlk Z144 (zEnd hf141) dX7_nextToken_339
                  · have hf145 := zNot hf115 b119
                    clear hf115
                    refine lv_aload_n hx hb dX7_nextToken_209 rfl (lv_at hl93 1 rfl) ?_
                    refine lv_iconst (v := 0) hx hb dX7_nextToken_210 (by decide) ?_
                    obtain ⟨σ146, es147, hf148⟩ := zLet hf145
                    clear hf145
                    refine zy_put (v := 0) (σ' := σ146) X Z118 mL_ok mk_0 rfl rfl (fun w h => List.mem_cons_of_mem _ (List.mem_append_right _ h)) tyX7 tyX7_ok nmX7 18 rfl (zz_m 7 rfl) rfl rfl rfl (fun _ => rfl) (fun _ => rfl) es147 dX7_nextToken_211 (fun H149 lo150 Z151 => ?_)
                    clear Z118 es147
                    exact b214_ zfu y0 σ146 hf148 _ _ _ Z151 (lv_sub hl93 [1, 0] rfl)
                · have hf152 := zNot hf106 b110
                  clear hf106
                  exact b128_ zfu y0 σ104 hf152 _ _ _ Z109 (lv_sub hl93 [1, 0] rfl)
              · have hf153 := zYes hf97 b101
                clear hf97
                refine lv_aload_n hx hb dX7_nextToken_109 rfl (lv_at hl93 1 rfl) ?_
                refine lv_iconst (v := 0) hx hb dX7_nextToken_110 (by decide) ?_
                obtain ⟨σ154, es155, hf156⟩ := zLet hf153
                clear hf153
                refine zy_put (v := 0) (σ' := σ154) X Z100 mL_ok mk_0 rfl rfl (fun w h => List.mem_cons_of_mem _ (List.mem_append_right _ h)) tyX7 tyX7_ok nmX7 17 rfl (zz_m 2 rfl) rfl rfl rfl (fun _ => rfl) (fun _ => rfl) es155 dX7_nextToken_111 (fun H157 lo158 Z159 => ?_)
                clear Z100 es155
                refine lv_goto (tgt := 339) hx hb dX7_nextToken_114 (by decide) ?_
                exact zy_vret X hr hlk Z159 (zEnd hf156) dX7_nextToken_339
            have b88_ : ∀ (σ : zg_S), B_X7_nextToken_88  σ = some (r0, σf) → ∀ (H : Heap) (locs : List Loc) (ls : Array Slot), zz_S D V A s (zg_W ML ad cA σ) (zg_T ML cA) H locs → lv_has ls 3 [(0, .ref (ad 0))] → W p l e (headSpec wsX7_nextToken { frames := 2, cells := 0, slots := 0, locals := 46 }).room s m (List.toArray [.ref (ad 0)]) below meth c H locs 0 0 (MQ below (va_Qv (fun (_ : Unit) => True) (fun _ t => zz_B D A (zg_W ML ad cA σf) (zg_T ML cA) t) A) (List.toArray [.ref (ad 0)]) s 0 0 A) (F0 m 88 ls []) := by
              intro σ hf88_ H88_ locs88_ ls88_ Z88_ hl88_
              unfold B_X7_nextToken_88 at hf88_
              refine lv_iconst (v := 0) hx hb dX7_nextToken_88 (by decide) ?_
              exact b89_ 0 σ hf88_ _ _ _ Z88_ (lv_sub hl88_ [0] rfl)
            refine lv_iload_n hx hb dX7_nextToken_72 rfl (lv_at hl72_ 1 rfl) ?_
            refine lv_if_eq (tgt := 88) hx hb dX7_nextToken_73 (by decide) (fun b160 => ?_) (fun b160 => ?_)
            · have hf161 := zYes hf72_ b160
              clear hf72_
              exact b88_ σ hf161 _ _ _ Z72_ (lv_sub hl72_ [0] rfl)
            · have hf162 := zNot hf72_ b160
              clear hf72_
              refine lv_iload_n hx hb dX7_nextToken_76 rfl (lv_at hl72_ 2 rfl) ?_
              refine lv_aload_n hx hb dX7_nextToken_77 rfl (lv_at hl72_ 0 rfl) ?_
              refine zy_get (v := .int (σ 0 16)) X Z72_ mL_ok mk_0 rfl rfl (fun w h => List.mem_cons_of_mem _ (List.mem_append_right _ h)) 16 rfl (zz_m 1 rfl) rfl dX7_nextToken_78 ?_
              refine lv_icmp_ne (tgt := 88) hx hb dX7_nextToken_81 (by decide) (fun b163 => ?_) (fun b163 => ?_)
              · have hf164 := zNot hf162 b163
                clear hf162
                exact b88_ σ hf164 _ _ _ Z72_ (lv_sub hl72_ [0] rfl)
              · have hf165 := zYes hf162 b163
                clear hf162
                refine lv_iconst (v := 1) hx hb dX7_nextToken_84 (by decide) ?_
                refine lv_goto (tgt := 89) hx hb dX7_nextToken_85 (by decide) ?_
                exact b89_ 1 σ hf165 _ _ _ Z72_ (lv_sub hl72_ [0] rfl)
          refine lv_aload_n hx hb dX7_nextToken_34 rfl (lv_at hl34_ 0 rfl) ?_
          refine zy_get (v := .int (σ 0 16)) X Z34_ mL_ok mk_0 rfl rfl (fun w h => List.mem_cons_of_mem _ (List.mem_append_right _ h)) 16 rfl (zz_m 1 rfl) rfl dX7_nextToken_35 ?_
          refine lv_aload_n hx hb dX7_nextToken_38 rfl (lv_at hl34_ 0 rfl) ?_
          refine zy_get (v := .int (σ 0 14)) X Z34_ mL_ok mk_0 rfl rfl (fun w h => List.mem_cons_of_mem _ (List.mem_append_right _ h)) 14 rfl (zz_m 3 rfl) rfl dX7_nextToken_39 ?_
          refine lv_icmp_ge (tgt := 72) hx hb dX7_nextToken_42 (by decide) (fun b166 => ?_) (fun b166 => ?_)
          · have hf167 := zYes hf34_ b166
            clear hf34_
            exact b72_ x1 x2 σ hf167 _ _ _ Z34_ (lv_sub hl34_ [0, 1, 2] rfl)
          · have hf168 := zNot hf34_ b166
            clear hf34_
            refine lv_aload_n hx hb dX7_nextToken_45 rfl (lv_at hl34_ 0 rfl) ?_
            refine zy_get (v := .ref (ad 13)) X Z34_ mL_ok mk_0 rfl rfl (fun w h => List.mem_cons_of_mem _ (List.mem_append_right _ h)) 13 rfl (zz_m 4 rfl) rfl dX7_nextToken_46 ?_
            refine lv_aload_n hx hb dX7_nextToken_49 rfl (lv_at hl34_ 0 rfl) ?_
            refine zy_get (v := .int (σ 0 16)) X Z34_ mL_ok mk_0 rfl rfl (fun w h => List.mem_cons_of_mem _ (List.mem_append_right _ h)) 16 rfl (zz_m 1 rfl) rfl dX7_nextToken_50 ?_
            obtain ⟨⟨i169, j170⟩, hf171⟩ := zG hf168
            clear hf168
            refine zy_ild X Z34_ mL_ok mk_13 ml_13 i169 dX7_nextToken_53 ?_
            refine lv_bipush (v := 32) hx hb dX7_nextToken_54 (by decide) ?_
            refine lv_icmp_ne (tgt := 72) hx hb dX7_nextToken_56 (by decide) (fun b172 => ?_) (fun b172 => ?_)
            · have hf173 := zNot hf171 b172
              clear hf171
              exact b72_ x1 x2 σ hf173 _ _ _ Z34_ (lv_sub hl34_ [0, 1, 2] rfl)
            · have hf174 := zYes hf171 b172
              clear hf171
              refine lv_aload_n hx hb dX7_nextToken_59 rfl (lv_at hl34_ 0 rfl) ?_
              refine lv_dup hx hb dX7_nextToken_60 rfl ?_
              refine zy_get (v := .int (σ 0 16)) X Z34_ mL_ok mk_0 rfl rfl (fun w h => List.mem_cons_of_mem _ (List.mem_append_right _ h)) 16 rfl (zz_m 1 rfl) rfl dX7_nextToken_61 ?_
              refine lv_iconst (v := 1) hx hb dX7_nextToken_64 (by decide) ?_
              refine lv_iadd hx hb dX7_nextToken_65 ?_
              obtain ⟨σ175, es176, hf177⟩ := zLet hf174
              clear hf174
              refine zy_put (v := (σ 0 16) + 1) (σ' := σ175) X Z34_ mL_ok mk_0 rfl rfl (fun w h => List.mem_cons_of_mem _ (List.mem_append_right _ h)) tyX7 tyX7_ok nmX7 16 rfl (zz_m 1 rfl) rfl rfl rfl (fun _ => rfl) (fun _ => rfl) es176 dX7_nextToken_66 (fun H178 lo179 Z180 => ?_)
              clear Z34_ es176
              refine lv_goto (tgt := 34) hx hb dX7_nextToken_69 (by decide) ?_
              exact ih34_ x1 x2 σ175 hf177 _ _ _ Z180 (lv_sub hl34_ [0, 1, 2] rfl)
    refine lv_istore_n (lv' := [(1, .int y0), (0, .ref (ad 0))]) hx hb dX7_nextToken_28 rfl hl28_ (by decide) rfl (fun ls182 hl181 => ?_)
    clear hl28_
    refine lv_aload_n hx hb dX7_nextToken_29 rfl (lv_at hl181 1 rfl) ?_
    refine zy_get (v := .int (σ 0 16)) X Z28_ mL_ok mk_0 rfl rfl (fun w h => List.mem_cons_of_mem _ (List.mem_append_right _ h)) 16 rfl (zz_m 1 rfl) rfl dX7_nextToken_30 ?_
    refine lv_istore_n (lv' := [(2, .int (σ 0 16)), (1, .int y0), (0, .ref (ad 0))]) hx hb dX7_nextToken_33 rfl hl181 (by decide) rfl (fun ls184 hl183 => ?_)
    clear hl181
    exact b34_ zfu y0 (σ 0 16) σ hf28_ _ _ _ Z28_ (lv_sub hl183 [2, 1, 0] rfl)
  have b27_ : ∀ (σ : zg_S), B_X7_nextToken_27  σ = some (r0, σf) → ∀ (H : Heap) (locs : List Loc) (ls : Array Slot), zz_S D V A s (zg_W ML ad cA σ) (zg_T ML cA) H locs → lv_has ls 3 [(0, .ref (ad 0))] → W p l e (headSpec wsX7_nextToken { frames := 2, cells := 0, slots := 0, locals := 46 }).room s m (List.toArray [.ref (ad 0)]) below meth c H locs 0 0 (MQ below (va_Qv (fun (_ : Unit) => True) (fun _ t => zz_B D A (zg_W ML ad cA σf) (zg_T ML cA) t) A) (List.toArray [.ref (ad 0)]) s 0 0 A) (F0 m 27 ls []) := by
    intro σ hf27_ H27_ locs27_ ls27_ Z27_ hl27_
    unfold B_X7_nextToken_27 at hf27_
    refine lv_iconst (v := 0) hx hb dX7_nextToken_27 (by decide) ?_
    exact b28_ 0 σ hf27_ _ _ _ Z27_ (lv_sub hl27_ [0] rfl)
  have b23_ : ∀ (σ : zg_S), B_X7_nextToken_23  σ = some (r0, σf) → ∀ (H : Heap) (locs : List Loc) (ls : Array Slot), zz_S D V A s (zg_W ML ad cA σ) (zg_T ML cA) H locs → lv_has ls 3 [(0, .ref (ad 0))] → W p l e (headSpec wsX7_nextToken { frames := 2, cells := 0, slots := 0, locals := 46 }).room s m (List.toArray [.ref (ad 0)]) below meth c H locs 0 0 (MQ below (va_Qv (fun (_ : Unit) => True) (fun _ t => zz_B D A (zg_W ML ad cA σf) (zg_T ML cA) t) A) (List.toArray [.ref (ad 0)]) s 0 0 A) (F0 m 23 ls []) := by
    intro σ hf23_ H23_ locs23_ ls23_ Z23_ hl23_
    unfold B_X7_nextToken_23 at hf23_
    refine lv_iconst (v := 1) hx hb dX7_nextToken_23 (by decide) ?_
    refine lv_goto (tgt := 28) hx hb dX7_nextToken_24 (by decide) ?_
    exact b28_ 1 σ hf23_ _ _ _ Z23_ (lv_sub hl23_ [0] rfl)
  refine lv_aload_n hx hb dX7_nextToken_0 rfl (lv_at hl 0 rfl) ?_
  refine zy_get (v := .int (σ 0 16)) X Z mL_ok mk_0 rfl rfl (fun w h => List.mem_cons_of_mem _ (List.mem_append_right _ h)) 16 rfl (zz_m 1 rfl) rfl dX7_nextToken_1 ?_
  refine lv_if_le (tgt := 27) hx hb dX7_nextToken_4 (by decide) (fun b185 => ?_) (fun b185 => ?_)
  · have hf186 := zYes hf b185
    clear hf
    exact b27_ σ hf186 _ _ _ Z (lv_sub hl [0] rfl)
  · have hf187 := zNot hf b185
    clear hf
    refine lv_aload_n hx hb dX7_nextToken_7 rfl (lv_at hl 0 rfl) ?_
    refine zy_get (v := .int (σ 0 17)) X Z mL_ok mk_0 rfl rfl (fun w h => List.mem_cons_of_mem _ (List.mem_append_right _ h)) 17 rfl (zz_m 2 rfl) rfl dX7_nextToken_8 ?_
    refine lv_iconst (v := 1) hx hb dX7_nextToken_11 (by decide) ?_
    refine lv_icmp_eq (tgt := 23) hx hb dX7_nextToken_12 (by decide) (fun b188 => ?_) (fun b188 => ?_)
    · have hf189 := zYes hf187 b188
      clear hf187
      exact b23_ σ hf189 _ _ _ Z (lv_sub hl [0] rfl)
    · have hf190 := zNot hf187 b188
      clear hf187
      refine lv_aload_n hx hb dX7_nextToken_15 rfl (lv_at hl 0 rfl) ?_
      refine zy_get (v := .int (σ 0 17)) X Z mL_ok mk_0 rfl rfl (fun w h => List.mem_cons_of_mem _ (List.mem_append_right _ h)) 17 rfl (zz_m 2 rfl) rfl dX7_nextToken_16 ?_
      refine lv_iconst (v := 2) hx hb dX7_nextToken_19 (by decide) ?_
      refine lv_icmp_ne (tgt := 27) hx hb dX7_nextToken_20 (by decide) (fun b191 => ?_) (fun b191 => ?_)
      · have hf192 := zNot hf190 b191
        clear hf190
        exact b27_ σ hf192 _ _ _ Z (lv_sub hl [0] rfl)
      · have hf193 := zYes hf190 b191
        clear hf190
        exact b23_ σ hf193 _ _ _ Z (lv_sub hl [0] rfl)
def f_X7_isName (a0 : Int32) (a1 : Int32) (σ : zg_S) : Option (Int32 × zg_S) := (if a0 = 0 then (if a1 = 104 then some (1, σ) else (if a1 = 103 then some (1, σ) else (if a1 = 112 then some (1, σ) else some (0, σ)))) else (if a0 = 1 then (if a1 = 99 then some (1, σ) else (if a1 = 116 then some (1, σ) else some (0, σ))) else (if a1 = 103 then some (1, σ) else (if a1 = 115 then some (1, σ) else some (0, σ)))))
set_option maxHeartbeats 4000000 in
set_option maxRecDepth 100000 in
theorem c_X7_isName (l : Launch) (D : va_G) (V : zz_V) (ad : Nat → Nat) (cA : Nat → ClassId) (a0 : Int32) (a1 : Int32)  (σ : zg_S) (r0 : Int32) (σf : zg_S) (hf : f_X7_isName a0 a1 σ = some (r0, σf)) : zM_I l yX7_isName wsX7_isName 0 0 D V ML ad cA [.int a0, .int a1] σ r0 σf := by
  intro sz
  refine Met.ofW (cc := cX7_isName) (maxL := 2) (ret := (some .boolean)) (by decide) rfl ?_
  intro p e s m args below meth c s₁ B hml hv
  obtain ⟨rfl, hC⟩ := hv
  have hx := B.exec
  have hb := B.bytes
  have hr := B.returns
  have hts := atoms_spec (ws := wsX7_isName) B.pre
  have hown : s.vm.findClass RX7 = some m.cls := findClass_of_methodNamed B.named
  have hlk := B.notSynchronized
  have X : CallFix p m c cX7_isName 2 s _ wsX7_isName RX7 := ⟨hx, hb, hml, hown, hts⟩
  have Z := zz_enter hC
  generalize va_A (zg_W ML ad cA σ) sz = A at Z ⊢
  have hl := lv_entry ([.int a0, .int a1]) (n := 2) (Nat.le_of_ble_eq_true rfl)
  rw [lg_entry_eq]
  generalize (lg_sl ([.int a0, .int a1]) ++ List.replicate (2 - (lg_sl ([.int a0, .int a1])).length) Slot.unset).toArray = ls at hl ⊢
  have hl : lv_has ls 2 [(0, .int a0), (1, .int a1)] := hl
  unfold f_X7_isName at hf
  refine lv_iload_n hx hb dX7_isName_0 rfl (lv_at hl 0 rfl) ?_
  by_cases w1 : a0 = 0
  · have hf2 := zYes hf w1
    clear hf
    refine zz_v w1 ?_
    refine lv_lookup (x := 0) (off := 27) (tgt := 28) hx hb dX7_isName_1 (by decide) (by decide) (by decide) ?_
    refine lv_iload_n hx hb dX7_isName_28 rfl (lv_at hl 1 rfl) ?_
    refine lv_bipush (v := 104) hx hb dX7_isName_29 (by decide) ?_
    refine lv_icmp_eq (tgt := 46) hx hb dX7_isName_31 (by decide) (fun b3 => ?_) (fun b3 => ?_)
    · have hf4 := zYes hf2 b3
      clear hf2
      refine lv_iconst (v := 1) hx hb dX7_isName_46 (by decide) ?_
      refine lv_goto (tgt := 51) hx hb dX7_isName_47 (by decide) ?_
      exact zy_zret X hr hlk Z (by decide) (zEnd hf4) dX7_isName_51
    · have hf5 := zNot hf2 b3
      clear hf2
      refine lv_iload_n hx hb dX7_isName_34 rfl (lv_at hl 1 rfl) ?_
      refine lv_bipush (v := 103) hx hb dX7_isName_35 (by decide) ?_
      refine lv_icmp_eq (tgt := 46) hx hb dX7_isName_37 (by decide) (fun b6 => ?_) (fun b6 => ?_)
      · have hf7 := zYes hf5 b6
        clear hf5
        refine lv_iconst (v := 1) hx hb dX7_isName_46 (by decide) ?_
        refine lv_goto (tgt := 51) hx hb dX7_isName_47 (by decide) ?_
        exact zy_zret X hr hlk Z (by decide) (zEnd hf7) dX7_isName_51
      · have hf8 := zNot hf5 b6
        clear hf5
        refine lv_iload_n hx hb dX7_isName_40 rfl (lv_at hl 1 rfl) ?_
        refine lv_bipush (v := 112) hx hb dX7_isName_41 (by decide) ?_
        refine lv_icmp_ne (tgt := 50) hx hb dX7_isName_43 (by decide) (fun b9 => ?_) (fun b9 => ?_)
        · have hf10 := zNot hf8 b9
          clear hf8
          refine lv_iconst (v := 0) hx hb dX7_isName_50 (by decide) ?_
          exact zy_zret X hr hlk Z (by decide) (zEnd hf10) dX7_isName_51
        · have hf11 := zYes hf8 b9
          clear hf8
          refine lv_iconst (v := 1) hx hb dX7_isName_46 (by decide) ?_
          refine lv_goto (tgt := 51) hx hb dX7_isName_47 (by decide) ?_
          exact zy_zret X hr hlk Z (by decide) (zEnd hf11) dX7_isName_51
  · have hf12 := zNot hf w1
    clear hf
    by_cases w13 : a0 = 1
    · have hf14 := zYes hf12 w13
      clear hf12
      refine zz_v w13 ?_
      refine lv_lookup (x := 1) (off := 51) (tgt := 52) hx hb dX7_isName_1 (by decide) (by decide) (by decide) ?_
      refine lv_iload_n hx hb dX7_isName_52 rfl (lv_at hl 1 rfl) ?_
      refine lv_bipush (v := 99) hx hb dX7_isName_53 (by decide) ?_
      refine lv_icmp_eq (tgt := 64) hx hb dX7_isName_55 (by decide) (fun b15 => ?_) (fun b15 => ?_)
      · have hf16 := zYes hf14 b15
        clear hf14
        refine lv_iconst (v := 1) hx hb dX7_isName_64 (by decide) ?_
        refine lv_goto (tgt := 69) hx hb dX7_isName_65 (by decide) ?_
        exact zy_zret X hr hlk Z (by decide) (zEnd hf16) dX7_isName_69
      · have hf17 := zNot hf14 b15
        clear hf14
        refine lv_iload_n hx hb dX7_isName_58 rfl (lv_at hl 1 rfl) ?_
        refine lv_bipush (v := 116) hx hb dX7_isName_59 (by decide) ?_
        refine lv_icmp_ne (tgt := 68) hx hb dX7_isName_61 (by decide) (fun b18 => ?_) (fun b18 => ?_)
        · have hf19 := zNot hf17 b18
          clear hf17
          refine lv_iconst (v := 0) hx hb dX7_isName_68 (by decide) ?_
          exact zy_zret X hr hlk Z (by decide) (zEnd hf19) dX7_isName_69
        · have hf20 := zYes hf17 b18
          clear hf17
          refine lv_iconst (v := 1) hx hb dX7_isName_64 (by decide) ?_
          refine lv_goto (tgt := 69) hx hb dX7_isName_65 (by decide) ?_
          exact zy_zret X hr hlk Z (by decide) (zEnd hf20) dX7_isName_69
    · have hf21 := zNot hf12 w13
      clear hf12
      have n22 := zNe (k := 0) (y := 0) (by decide) w1
      have n23 := zNe (k := 1) (y := 1) (by decide) w13
      refine lv_lookup (off := 69) (tgt := 70) hx hb dX7_isName_1 (by decide) (by simp [Op.lookupswitch.offset, n22, n23, Ne.symm n22, Ne.symm n23]) (by decide) ?_
      refine lv_iload_n hx hb dX7_isName_70 rfl (lv_at hl 1 rfl) ?_
      refine lv_bipush (v := 103) hx hb dX7_isName_71 (by decide) ?_
      refine lv_icmp_eq (tgt := 82) hx hb dX7_isName_73 (by decide) (fun b24 => ?_) (fun b24 => ?_)
      · have hf25 := zYes hf21 b24
        clear hf21
        refine lv_iconst (v := 1) hx hb dX7_isName_82 (by decide) ?_
        refine lv_goto (tgt := 87) hx hb dX7_isName_83 (by decide) ?_
        exact zy_zret X hr hlk Z (by decide) (zEnd hf25) dX7_isName_87
      · have hf26 := zNot hf21 b24
        clear hf21
        refine lv_iload_n hx hb dX7_isName_76 rfl (lv_at hl 1 rfl) ?_
        refine lv_bipush (v := 115) hx hb dX7_isName_77 (by decide) ?_
        refine lv_icmp_ne (tgt := 86) hx hb dX7_isName_79 (by decide) (fun b27 => ?_) (fun b27 => ?_)
        · have hf28 := zNot hf26 b27
          clear hf26
          refine lv_iconst (v := 0) hx hb dX7_isName_86 (by decide) ?_
          exact zy_zret X hr hlk Z (by decide) (zEnd hf28) dX7_isName_87
        · have hf29 := zYes hf26 b27
          clear hf26
          refine lv_iconst (v := 1) hx hb dX7_isName_82 (by decide) ?_
          refine lv_goto (tgt := 87) hx hb dX7_isName_83 (by decide) ?_
          exact zy_zret X hr hlk Z (by decide) (zEnd hf29) dX7_isName_87
def f_X7_isSign (a1 : Int32) (σ : zg_S) : Option (Int32 × zg_S) := (if (σ 0 17) = 3 then (if (σ 0 19) = a1 then some (1, σ) else some (0, σ)) else some (0, σ))
set_option maxHeartbeats 4000000 in
set_option maxRecDepth 100000 in
theorem c_X7_isSign (l : Launch) (D : va_G) (V : zz_V) (ad : Nat → Nat) (cA : Nat → ClassId) (a1 : Int32)  (σ : zg_S) (r0 : Int32) (σf : zg_S) (hf : f_X7_isSign a1 σ = some (r0, σf)) : zM_I l yX7_isSign wsX7_isSign 0 0 D V ML ad cA [.ref (ad 0), .int a1] σ r0 σf := by
  intro sz
  refine Met.ofW (cc := cX7_isSign) (maxL := 2) (ret := (some .boolean)) (by decide) rfl ?_
  intro p e s m args below meth c s₁ B hml hv
  obtain ⟨rfl, hC⟩ := hv
  have hx := B.exec
  have hb := B.bytes
  have hr := B.returns
  have hts := atoms_spec (ws := wsX7_isSign) B.pre
  have hown : s.vm.findClass RX7 = some m.cls := findClass_of_methodNamed B.named
  have hlk := B.notSynchronized
  have X : CallFix p m c cX7_isSign 2 s _ wsX7_isSign RX7 := ⟨hx, hb, hml, hown, hts⟩
  have Z := zz_enter hC
  generalize va_A (zg_W ML ad cA σ) sz = A at Z ⊢
  have hl := lv_entry ([.ref (ad 0), .int a1]) (n := 2) (Nat.le_of_ble_eq_true rfl)
  rw [lg_entry_eq]
  generalize (lg_sl ([.ref (ad 0), .int a1]) ++ List.replicate (2 - (lg_sl ([.ref (ad 0), .int a1])).length) Slot.unset).toArray = ls at hl ⊢
  have hl : lv_has ls 2 [(0, .ref (ad 0)), (1, .int a1)] := hl
  unfold f_X7_isSign at hf
  refine lv_aload_n hx hb dX7_isSign_0 rfl (lv_at hl 0 rfl) ?_
  refine zy_get (v := .int (σ 0 17)) X Z mL_ok mk_0 rfl rfl (fun w h => List.mem_cons_of_mem _ (List.mem_append_right _ h)) 17 rfl (zz_m 1 rfl) rfl dX7_isSign_1 ?_
  refine lv_iconst (v := 3) hx hb dX7_isSign_4 (by decide) ?_
  refine lv_icmp_ne (tgt := 20) hx hb dX7_isSign_5 (by decide) (fun b1 => ?_) (fun b1 => ?_)
  · have hf2 := zNot hf b1
    clear hf
    refine lv_iconst (v := 0) hx hb dX7_isSign_20 (by decide) ?_
    exact zy_zret X hr hlk Z (by decide) (zEnd hf2) dX7_isSign_21
  · have hf3 := zYes hf b1
    clear hf
    refine lv_aload_n hx hb dX7_isSign_8 rfl (lv_at hl 0 rfl) ?_
    refine zy_get (v := .int (σ 0 19)) X Z mL_ok mk_0 rfl rfl (fun w h => List.mem_cons_of_mem _ (List.mem_append_right _ h)) 19 rfl (zz_m 2 rfl) rfl dX7_isSign_9 ?_
    refine lv_iload_n hx hb dX7_isSign_12 rfl (lv_at hl 1 rfl) ?_
    refine lv_icmp_ne (tgt := 20) hx hb dX7_isSign_13 (by decide) (fun b4 => ?_) (fun b4 => ?_)
    · have hf5 := zNot hf3 b4
      clear hf3
      refine lv_iconst (v := 0) hx hb dX7_isSign_20 (by decide) ?_
      exact zy_zret X hr hlk Z (by decide) (zEnd hf5) dX7_isSign_21
    · have hf6 := zYes hf3 b4
      clear hf3
      refine lv_iconst (v := 1) hx hb dX7_isSign_16 (by decide) ?_
      refine lv_goto (tgt := 21) hx hb dX7_isSign_17 (by decide) ?_
      exact zy_zret X hr hlk Z (by decide) (zEnd hf6) dX7_isSign_21
def B_X7_either_10 (rec : Nat → Int32 → zg_S → Option (Int32 × zg_S)) (a1 : Int32) (rec10_ : zg_S → Option (Int32 × zg_S)) (σ : zg_S) : Option (Int32 × zg_S) := zbd (f_X7_isSign 124 σ) (fun (r1 : Int32) (σ2 : zg_S) => (if r1 = 0 then some (1, σ2) else zbd (f_X7_nextToken σ2) (fun (r11 : Int32) (σ12 : zg_S) => zbd (rec 1 a1 σ12) (fun (r18 : Int32) (σ19 : zg_S) => (if r18 = 0 then some (0, σ19) else zbd (f_X7_step 2 124 σ19) (fun (r27 : Int32) (σ28 : zg_S) => rec10_ σ28))))))
def L_X7_either_10 (rec : Nat → Int32 → zg_S → Option (Int32 × zg_S)) (a1 : Int32) : Nat → zg_S → Option (Int32 × zg_S) := zfix (fun _ => none) (B_X7_either_10 rec a1)
def f_X7_either (rec : Nat → Int32 → zg_S → Option (Int32 × zg_S)) (a1 : Int32) (σ : zg_S) : Option (Int32 × zg_S) := zbd (rec 1 a1 σ) (fun (r35 : Int32) (σ36 : zg_S) => (if r35 = 0 then some (0, σ36) else L_X7_either_10 rec a1 zfu σ36))

def B_X7_both_10 (rec : Nat → Int32 → zg_S → Option (Int32 × zg_S)) (a1 : Int32) (rec10_ : zg_S → Option (Int32 × zg_S)) (σ : zg_S) : Option (Int32 × zg_S) := zbd (f_X7_isSign 38 σ) (fun (r1 : Int32) (σ2 : zg_S) => (if r1 = 0 then some (1, σ2) else zbd (f_X7_nextToken σ2) (fun (r11 : Int32) (σ12 : zg_S) => zbd (rec 2 a1 σ12) (fun (r18 : Int32) (σ19 : zg_S) => (if r18 = 0 then some (0, σ19) else zbd (f_X7_step 2 38 σ19) (fun (r27 : Int32) (σ28 : zg_S) => rec10_ σ28))))))
def L_X7_both_10 (rec : Nat → Int32 → zg_S → Option (Int32 × zg_S)) (a1 : Int32) : Nat → zg_S → Option (Int32 × zg_S) := zfix (fun _ => none) (B_X7_both_10 rec a1)
def f_X7_both (rec : Nat → Int32 → zg_S → Option (Int32 × zg_S)) (a1 : Int32) (σ : zg_S) : Option (Int32 × zg_S) := zbd (rec 2 a1 σ) (fun (r35 : Int32) (σ36 : zg_S) => (if r35 = 0 then some (0, σ36) else L_X7_both_10 rec a1 zfu σ36))

def B_X7_test_37 (rec : Nat → Int32 → zg_S → Option (Int32 × zg_S)) (a1 : Int32) (σ : zg_S) : Option (Int32 × zg_S) := zbd (f_X7_nextToken σ) (fun (r3 : Int32) (σ4 : zg_S) => zbd (rec 3 a1 σ4) (fun (r10 : Int32) (σ11 : zg_S) => (if r10 = 0 then some (0, σ11) else zbd (f_X7_step 2 (σ 0 19) σ11) (fun (r19 : Int32) (σ20 : zg_S) => some (1, σ20)))))
def f_X7_test (rec : Nat → Int32 → zg_S → Option (Int32 × zg_S)) (a1 : Int32) (σ : zg_S) : Option (Int32 × zg_S) := zbd (rec 3 a1 σ) (fun (r27 : Int32) (σ28 : zg_S) => (if r27 = 0 then some (0, σ28) else zbd (f_X7_isSign 60 σ28) (fun (r36 : Int32) (σ37 : zg_S) => (if r36 = 0 then zbd (f_X7_isSign 61 σ37) (fun (r46 : Int32) (σ47 : zg_S) => (if r46 = 0 then zbd (f_X7_isSign 62 σ47) (fun (r56 : Int32) (σ57 : zg_S) => (if r56 = 0 then some (1, σ57) else B_X7_test_37 rec a1 σ57)) else B_X7_test_37 rec a1 σ47)) else B_X7_test_37 rec a1 σ37))))

def B_X7_sum_28 (rec : Nat → Int32 → zg_S → Option (Int32 × zg_S)) (a1 : Int32) (rec10_ : zg_S → Option (Int32 × zg_S)) (σ : zg_S) : Option (Int32 × zg_S) := zbd (f_X7_nextToken σ) (fun (r3 : Int32) (σ4 : zg_S) => zbd (rec 4 a1 σ4) (fun (r10 : Int32) (σ11 : zg_S) => (if r10 = 0 then some (0, σ11) else zbd (f_X7_step 2 (σ 0 19) σ11) (fun (r19 : Int32) (σ20 : zg_S) => rec10_ σ20))))
def B_X7_sum_10 (rec : Nat → Int32 → zg_S → Option (Int32 × zg_S)) (a1 : Int32) (rec10_ : zg_S → Option (Int32 × zg_S)) (σ : zg_S) : Option (Int32 × zg_S) := zbd (f_X7_isSign 43 σ) (fun (r27 : Int32) (σ28 : zg_S) => (if r27 = 0 then zbd (f_X7_isSign 45 σ28) (fun (r37 : Int32) (σ38 : zg_S) => (if r37 = 0 then some (1, σ38) else B_X7_sum_28 rec a1 rec10_ σ38)) else B_X7_sum_28 rec a1 rec10_ σ28))
def L_X7_sum_10 (rec : Nat → Int32 → zg_S → Option (Int32 × zg_S)) (a1 : Int32) : Nat → zg_S → Option (Int32 × zg_S) := zfix (fun _ => none) (B_X7_sum_10 rec a1)
def f_X7_sum (rec : Nat → Int32 → zg_S → Option (Int32 × zg_S)) (a1 : Int32) (σ : zg_S) : Option (Int32 × zg_S) := zbd (rec 4 a1 σ) (fun (r47 : Int32) (σ48 : zg_S) => (if r47 = 0 then some (0, σ48) else L_X7_sum_10 rec a1 zfu σ48))

def B_X7_term_28 (rec : Nat → Int32 → zg_S → Option (Int32 × zg_S)) (a1 : Int32) (rec10_ : zg_S → Option (Int32 × zg_S)) (σ : zg_S) : Option (Int32 × zg_S) := zbd (f_X7_nextToken σ) (fun (r3 : Int32) (σ4 : zg_S) => zbd (rec 5 a1 σ4) (fun (r10 : Int32) (σ11 : zg_S) => (if r10 = 0 then some (0, σ11) else zbd (f_X7_step 2 (σ 0 19) σ11) (fun (r19 : Int32) (σ20 : zg_S) => rec10_ σ20))))
def B_X7_term_10 (rec : Nat → Int32 → zg_S → Option (Int32 × zg_S)) (a1 : Int32) (rec10_ : zg_S → Option (Int32 × zg_S)) (σ : zg_S) : Option (Int32 × zg_S) := zbd (f_X7_isSign 42 σ) (fun (r27 : Int32) (σ28 : zg_S) => (if r27 = 0 then zbd (f_X7_isSign 47 σ28) (fun (r37 : Int32) (σ38 : zg_S) => (if r37 = 0 then some (1, σ38) else B_X7_term_28 rec a1 rec10_ σ38)) else B_X7_term_28 rec a1 rec10_ σ28))
def L_X7_term_10 (rec : Nat → Int32 → zg_S → Option (Int32 × zg_S)) (a1 : Int32) : Nat → zg_S → Option (Int32 × zg_S) := zfix (fun _ => none) (B_X7_term_10 rec a1)
def f_X7_term (rec : Nat → Int32 → zg_S → Option (Int32 × zg_S)) (a1 : Int32) (σ : zg_S) : Option (Int32 × zg_S) := zbd (rec 5 a1 σ) (fun (r47 : Int32) (σ48 : zg_S) => (if r47 = 0 then some (0, σ48) else L_X7_term_10 rec a1 zfu σ48))

def B_X7_part0_145 (rec : Nat → Int32 → zg_S → Option (Int32 × zg_S)) (a1 : Int32) (σ : zg_S) : Option (Int32 × zg_S) := zbd (f_X7_isSign 40 σ) (fun (r1 : Int32) (σ2 : zg_S) => (if r1 = 0 then some (0, σ2) else (if (σ2 0 20) = 8 then some (0, σ2) else zlet (zg_up σ2 0 20 ((σ2 0 20) + 1)) (fun (σ13 : zg_S) => zbd (f_X7_nextToken σ13) (fun (r19 : Int32) (σ20 : zg_S) => zbd (rec 0 a1 σ20) (fun (r26 : Int32) (σ27 : zg_S) => (if r26 = 0 then some (0, σ27) else zbd (f_X7_isSign 41 σ27) (fun (r36 : Int32) (σ37 : zg_S) => (if r36 = 0 then some (0, σ37) else zlet (zg_up σ37 0 20 ((σ37 0 20) - 1)) (fun (σ45 : zg_S) => zbd (f_X7_nextToken σ45) (fun (r51 : Int32) (σ52 : zg_S) => some (1, σ52))))))))))))
def B_X7_part0_84 (rec : Nat → Int32 → zg_S → Option (Int32 × zg_S)) (a1 : Int32) (σ : zg_S) : Option (Int32 × zg_S) := zbd (f_X7_isSign 33 σ) (fun (r60 : Int32) (σ61 : zg_S) => (if r60 = 0 then B_X7_part0_145 rec a1 σ61 else (if 8 ≤ (σ61 0 21) then B_X7_part0_145 rec a1 σ61 else zlet (zg_up σ61 0 21 ((σ61 0 21) + 1)) (fun (σ73 : zg_S) => zbd (f_X7_nextToken σ73) (fun (r79 : Int32) (σ80 : zg_S) => zbd (rec 5 a1 σ80) (fun (r86 : Int32) (σ87 : zg_S) => (if r86 = 0 then some (0, σ87) else zlet (zg_up σ87 0 21 ((σ87 0 21) - 1)) (fun (σ95 : zg_S) => zbd (f_X7_step 2 33 σ95) (fun (r101 : Int32) (σ102 : zg_S) => some (1, σ102))))))))))
def f_X7_part0 (rec : Nat → Int32 → zg_S → Option (Int32 × zg_S)) (a1 : Int32) (σ : zg_S) : Option (Int32 × zg_S) := (if (σ 0 17) = 2 then zbd (f_X7_step 0 (σ 0 18) σ) (fun (r148 : Int32) (σ149 : zg_S) => zlet (zg_up σ149 0 24 ((σ149 0 24) + 1)) (fun (σ155 : zg_S) => zbd (f_X7_nextToken σ155) (fun (r161 : Int32) (σ162 : zg_S) => some (1, σ162)))) else (if (σ 0 17) = 1 then (if (σ 0 19) = 0 then B_X7_part0_84 rec a1 σ else zbd (f_X7_isName a1 (σ 0 19) σ) (fun (r117 : Int32) (σ118 : zg_S) => (if r117 = 0 then B_X7_part0_84 rec a1 σ118 else zbd (f_X7_step 1 (σ118 0 19) σ118) (fun (r127 : Int32) (σ128 : zg_S) => zlet (zg_up σ128 0 24 ((σ128 0 24) + 1)) (fun (σ134 : zg_S) => zbd (f_X7_nextToken σ134) (fun (r140 : Int32) (σ141 : zg_S) => some (1, σ141))))))) else B_X7_part0_84 rec a1 σ))

def H_mp (rec : Nat → Int32 → zg_S → Option (Int32 × zg_S)) : Nat → Int32 → zg_S → Option (Int32 × zg_S) := fun tag z0 σ => match tag with
  | 0 => f_X7_either rec z0 σ
  | 1 => f_X7_both rec z0 σ
  | 2 => f_X7_test rec z0 σ
  | 3 => f_X7_sum rec z0 σ
  | 4 => f_X7_term rec z0 σ
  | _ => f_X7_part0 rec z0 σ

def G_mp : Nat → Nat → Int32 → zg_S → Option (Int32 × zg_S) := zfix (fun _ _ _ => none) H_mp

def zG_mp (l : Launch) (D : va_G) (V : zz_V) (ad : Nat → Nat) (cA : Nat → ClassId) (d : Nat) : Prop := (∀ (z0 : Int32) (σ : zg_S) (r0 : Int32) (σf : zg_S), G_mp d 0 z0 σ = some (r0, σf) → zM_I l yX7_either wsX7_either (3 + d) (68 + 22 * d) D V ML ad cA [.ref (ad 0), .int z0] σ r0 σf) ∧ (∀ (z0 : Int32) (σ : zg_S) (r0 : Int32) (σf : zg_S), G_mp d 1 z0 σ = some (r0, σf) → zM_I l yX7_both wsX7_both (3 + d) (68 + 22 * d) D V ML ad cA [.ref (ad 0), .int z0] σ r0 σf) ∧ (∀ (z0 : Int32) (σ : zg_S) (r0 : Int32) (σf : zg_S), G_mp d 2 z0 σ = some (r0, σf) → zM_I l yX7_test wsX7_test (3 + d) (68 + 22 * d) D V ML ad cA [.ref (ad 0), .int z0] σ r0 σf) ∧ (∀ (z0 : Int32) (σ : zg_S) (r0 : Int32) (σf : zg_S), G_mp d 3 z0 σ = some (r0, σf) → zM_I l yX7_sum wsX7_sum (3 + d) (68 + 22 * d) D V ML ad cA [.ref (ad 0), .int z0] σ r0 σf) ∧ (∀ (z0 : Int32) (σ : zg_S) (r0 : Int32) (σf : zg_S), G_mp d 4 z0 σ = some (r0, σf) → zM_I l yX7_term wsX7_term (3 + d) (68 + 22 * d) D V ML ad cA [.ref (ad 0), .int z0] σ r0 σf) ∧ (∀ (z0 : Int32) (σ : zg_S) (r0 : Int32) (σf : zg_S), G_mp d 5 z0 σ = some (r0, σf) → zM_I l yX7_part0 wsX7_part0 (3 + d) (68 + 22 * d) D V ML ad cA [.ref (ad 0), .int z0] σ r0 σf)

set_option maxHeartbeats 4000000 in
set_option maxRecDepth 100000 in
theorem c_X7_either_s (l : Launch) (D : va_G) (V : zz_V) (ad : Nat → Nat) (cA : Nat → ClassId) (d : Nat) (ih : zG_mp l D V ad cA d) (a1 : Int32) (σ : zg_S) (r0 : Int32) (σf : zg_S) (hf : f_X7_either (G_mp d) a1 σ = some (r0, σf)) : zM_I l yX7_either wsX7_either (3 + (d + 1)) (68 + 22 * (d + 1)) D V ML ad cA [.ref (ad 0), .int a1] σ r0 σf := by
  intro sz
  refine Met.ofW (cc := cX7_either) (maxL := 2) (ret := (some .boolean)) (by decide) rfl ?_
  intro p e s m args below meth c s₁ B hml hv
  obtain ⟨rfl, hC⟩ := hv
  have hx := B.exec
  have hb := B.bytes
  have hr := B.returns
  have hts := atoms_spec (ws := wsX7_either) B.pre
  have hown : s.vm.findClass RX7 = some m.cls := findClass_of_methodNamed B.named
  have hlk := B.notSynchronized
  have X : CallFix p m c cX7_either 2 s _ wsX7_either RX7 := ⟨hx, hb, hml, hown, hts⟩
  have Z := zz_enter hC
  generalize va_A (zg_W ML ad cA σ) sz = A at Z ⊢
  have hl := lv_entry ([.ref (ad 0), .int a1]) (n := 2) (Nat.le_of_ble_eq_true rfl)
  rw [lg_entry_eq]
  generalize (lg_sl ([.ref (ad 0), .int a1]) ++ List.replicate (2 - (lg_sl ([.ref (ad 0), .int a1])).length) Slot.unset).toArray = ls at hl ⊢
  have hl : lv_has ls 2 [(0, .ref (ad 0)), (1, .int a1)] := hl
  unfold f_X7_either at hf
  have b10_ : ∀ (k10_ : Nat) (σ : zg_S), L_X7_either_10 (G_mp d) a1 k10_  σ = some (r0, σf) → ∀ (H : Heap) (locs : List Loc) (ls : Array Slot), zz_S D V A s (zg_W ML ad cA σ) (zg_T ML cA) H locs → lv_has ls 2 [(0, .ref (ad 0)), (1, .int a1)] → W p l e (headSpec wsX7_either { frames := (3 + (d + 1)), cells := 0, slots := 0, locals := (68 + 22 * (d + 1)) }).room s m (List.toArray [.ref (ad 0), .int a1]) below meth c H locs 0 0 (MQ below (va_Qi (fun r (_ : Unit) => r = r0) (fun _ t => zz_B D A (zg_W ML ad cA σf) (zg_T ML cA) t) A) (List.toArray [.ref (ad 0), .int a1]) s 0 0 A) (F0 m 10 ls []) := by
    intro k10_
    induction k10_ with
    | zero =>
        intro σ hf10_ H10_ locs10_ ls10_ Z10_ hl10_
        exact zNone hf10_
    | succ k10_ ih10_ =>
        intro σ hf10_ H10_ locs10_ ls10_ Z10_ hl10_
        replace hf10_ : B_X7_either_10 (G_mp d) a1 (L_X7_either_10 (G_mp d) a1 k10_) σ = some (r0, σf) := hf10_
        unfold B_X7_either_10 at hf10_
        refine lv_aload_n hx hb dX7_either_10 rfl (lv_at hl10_ 0 rfl) ?_
        refine lv_bipush (v := 124) hx hb dX7_either_11 (by decide) ?_
        obtain ⟨r1, σ2, hc3, hf4⟩ := zBd hf10_
        clear hf10_
        refine zy_ci (r0 := r1) (WS1 := zg_W ML ad cA σ2) (TYS1 := zg_T ML cA) Z10_ (va_runV (As := [.int 124]) (rest := []) X (c_X7_isSign l D V ad cA 124 σ r1 σ2 hc3 H10_.size) (cwV 1 hts gX7_either_X7_isSign rfl rfl rfl ⟨rfl, zh_X7_isSign⟩ ⟨show 0 + 1 ≤ 3 + (d + 1) by omega, show 8 + (2 + 11) + 0 ≤ 68 + 22 * (d + 1) by omega⟩) (zy_pV (ci := 7) Z10_ mL_ok mk_0 rfl rfl) rfl rfl hl10_.1 rfl (lv_room (Nat.le_of_ble_eq_true rfl)) dX7_either_13 ⟨Nat.le_of_ble_eq_true rfl, Nat.le_of_ble_eq_true rfl⟩) (fun H5 lo6 Z7 => ?_)
        clear Z10_ hc3
        refine lv_if_eq (tgt := 43) hx hb dX7_either_16 (by decide) (fun b8 => ?_) (fun b8 => ?_)
        · have hf9 := zYes hf4 b8
          clear hf4
          refine lv_iconst (v := 1) hx hb dX7_either_43 (by decide) ?_
          exact zy_zret X hr hlk Z7 (by decide) (zEnd hf9) dX7_either_44
        · have hf10 := zNot hf4 b8
          clear hf4
          refine lv_aload_n hx hb dX7_either_19 rfl (lv_at hl10_ 0 rfl) ?_
          obtain ⟨r11, σ12, hc13, hf14⟩ := zBd hf10
          clear hf10
          refine zy_cv (WS1 := zg_W ML ad cA σ12) (TYS1 := zg_T ML cA) Z7 (va_runV (As := []) (rest := []) X (c_X7_nextToken l D V ad cA  σ2 r11 σ12 hc13 H5.size) (cwV 0 hts gX7_either_X7_nextToken rfl rfl rfl ⟨rfl, zh_X7_nextToken⟩ ⟨show 2 + 1 ≤ 3 + (d + 1) by omega, show 8 + (3 + 11) + 46 ≤ 68 + 22 * (d + 1) by omega⟩) (zy_pV (ci := 7) Z7 mL_ok mk_0 rfl rfl) rfl rfl hl10_.1 rfl (lv_room (Nat.le_of_ble_eq_true rfl)) dX7_either_20 ⟨Nat.le_of_ble_eq_true rfl, Nat.le_of_ble_eq_true rfl⟩) (fun H15 lo16 Z17 => ?_)
          clear Z7 hc13
          refine lv_aload_n hx hb dX7_either_23 rfl (lv_at hl10_ 0 rfl) ?_
          refine lv_iload_n hx hb dX7_either_24 rfl (lv_at hl10_ 1 rfl) ?_
          obtain ⟨r18, σ19, hc20, hf21⟩ := zBd hf14
          clear hf14
          refine zy_ci (r0 := r18) (WS1 := zg_W ML ad cA σ19) (TYS1 := zg_T ML cA) Z17 (va_runV (As := [.int a1]) (rest := []) X ((ih.2.1) a1 σ12 r18 σ19 hc20 H15.size) (cwV 1 hts gX7_either_X7_both rfl rfl rfl ⟨rfl, zh_X7_both⟩ ⟨show 3 + d + 1 ≤ 3 + (d + 1) by omega, show 8 + (2 + 11) + (68 + 22 * d) ≤ 68 + 22 * (d + 1) by omega⟩) (zy_pV (ci := 7) Z17 mL_ok mk_0 rfl rfl) rfl rfl hl10_.1 rfl (lv_room (Nat.le_of_ble_eq_true rfl)) dX7_either_25 ⟨Nat.le_of_ble_eq_true rfl, Nat.le_of_ble_eq_true rfl⟩) (fun H22 lo23 Z24 => ?_)
          clear Z17 hc20
          refine lv_if_ne (tgt := 33) hx hb dX7_either_28 (by decide) (fun b25 => ?_) (fun b25 => ?_)
          · have hf26 := zNot hf21 b25
            clear hf21
            refine lv_aload_n hx hb dX7_either_33 rfl (lv_at hl10_ 0 rfl) ?_
            refine lv_iconst (v := 2) hx hb dX7_either_34 (by decide) ?_
            refine lv_bipush (v := 124) hx hb dX7_either_35 (by decide) ?_
            obtain ⟨r27, σ28, hc29, hf30⟩ := zBd hf26
            clear hf26
            refine zy_cv (WS1 := zg_W ML ad cA σ28) (TYS1 := zg_T ML cA) Z24 (va_runV (As := [.int 2, .int 124]) (rest := []) X (c_X7_step l D V ad cA 2 124 σ19 r27 σ28 hc29 H22.size) (cwV 2 hts gX7_either_X7_step rfl rfl rfl ⟨rfl, zh_X7_step⟩ ⟨show 0 + 1 ≤ 3 + (d + 1) by omega, show 8 + (3 + 11) + 0 ≤ 68 + 22 * (d + 1) by omega⟩) (zy_pV (ci := 7) Z24 mL_ok mk_0 rfl rfl) rfl rfl hl10_.1 rfl (lv_room (Nat.le_of_ble_eq_true rfl)) dX7_either_37 ⟨Nat.le_of_ble_eq_true rfl, Nat.le_of_ble_eq_true rfl⟩) (fun H31 lo32 Z33 => ?_)
            clear Z24 hc29
            refine lv_goto (tgt := 10) hx hb dX7_either_40 (by decide) ?_
            exact ih10_ σ28 hf30 _ _ _ Z33 (lv_sub hl10_ [0, 1] rfl)
          · have hf34 := zYes hf21 b25
            clear hf21
            refine lv_iconst (v := 0) hx hb dX7_either_31 (by decide) ?_
            exact zy_zret X hr hlk Z24 (by decide) (zEnd hf34) dX7_either_32
  refine lv_aload_n hx hb dX7_either_0 rfl (lv_at hl 0 rfl) ?_
  refine lv_iload_n hx hb dX7_either_1 rfl (lv_at hl 1 rfl) ?_
  obtain ⟨r35, σ36, hc37, hf38⟩ := zBd hf
  clear hf
  refine zy_ci (r0 := r35) (WS1 := zg_W ML ad cA σ36) (TYS1 := zg_T ML cA) Z (va_runV (As := [.int a1]) (rest := []) X ((ih.2.1) a1 σ r35 σ36 hc37 s.heap.size) (cwV 1 hts gX7_either_X7_both rfl rfl rfl ⟨rfl, zh_X7_both⟩ ⟨show 3 + d + 1 ≤ 3 + (d + 1) by omega, show 8 + (2 + 11) + (68 + 22 * d) ≤ 68 + 22 * (d + 1) by omega⟩) (zy_pV (ci := 7) Z mL_ok mk_0 rfl rfl) rfl rfl hl.1 rfl (lv_room (Nat.le_of_ble_eq_true rfl)) dX7_either_2 ⟨Nat.le_of_ble_eq_true rfl, Nat.le_of_ble_eq_true rfl⟩) (fun H39 lo40 Z41 => ?_)
  clear Z hc37
  refine lv_if_ne (tgt := 10) hx hb dX7_either_5 (by decide) (fun b42 => ?_) (fun b42 => ?_)
  · have hf43 := zNot hf38 b42
    clear hf38
    exact b10_ zfu σ36 hf43 _ _ _ Z41 (lv_sub hl [0, 1] rfl)
  · have hf44 := zYes hf38 b42
    clear hf38
    refine lv_iconst (v := 0) hx hb dX7_either_8 (by decide) ?_
    exact zy_zret X hr hlk Z41 (by decide) (zEnd hf44) dX7_either_9

set_option maxHeartbeats 4000000 in
set_option maxRecDepth 100000 in
theorem c_X7_both_s (l : Launch) (D : va_G) (V : zz_V) (ad : Nat → Nat) (cA : Nat → ClassId) (d : Nat) (ih : zG_mp l D V ad cA d) (a1 : Int32) (σ : zg_S) (r0 : Int32) (σf : zg_S) (hf : f_X7_both (G_mp d) a1 σ = some (r0, σf)) : zM_I l yX7_both wsX7_both (3 + (d + 1)) (68 + 22 * (d + 1)) D V ML ad cA [.ref (ad 0), .int a1] σ r0 σf := by
  intro sz
  refine Met.ofW (cc := cX7_both) (maxL := 2) (ret := (some .boolean)) (by decide) rfl ?_
  intro p e s m args below meth c s₁ B hml hv
  obtain ⟨rfl, hC⟩ := hv
  have hx := B.exec
  have hb := B.bytes
  have hr := B.returns
  have hts := atoms_spec (ws := wsX7_both) B.pre
  have hown : s.vm.findClass RX7 = some m.cls := findClass_of_methodNamed B.named
  have hlk := B.notSynchronized
  have X : CallFix p m c cX7_both 2 s _ wsX7_both RX7 := ⟨hx, hb, hml, hown, hts⟩
  have Z := zz_enter hC
  generalize va_A (zg_W ML ad cA σ) sz = A at Z ⊢
  have hl := lv_entry ([.ref (ad 0), .int a1]) (n := 2) (Nat.le_of_ble_eq_true rfl)
  rw [lg_entry_eq]
  generalize (lg_sl ([.ref (ad 0), .int a1]) ++ List.replicate (2 - (lg_sl ([.ref (ad 0), .int a1])).length) Slot.unset).toArray = ls at hl ⊢
  have hl : lv_has ls 2 [(0, .ref (ad 0)), (1, .int a1)] := hl
  unfold f_X7_both at hf
  have b10_ : ∀ (k10_ : Nat) (σ : zg_S), L_X7_both_10 (G_mp d) a1 k10_  σ = some (r0, σf) → ∀ (H : Heap) (locs : List Loc) (ls : Array Slot), zz_S D V A s (zg_W ML ad cA σ) (zg_T ML cA) H locs → lv_has ls 2 [(0, .ref (ad 0)), (1, .int a1)] → W p l e (headSpec wsX7_both { frames := (3 + (d + 1)), cells := 0, slots := 0, locals := (68 + 22 * (d + 1)) }).room s m (List.toArray [.ref (ad 0), .int a1]) below meth c H locs 0 0 (MQ below (va_Qi (fun r (_ : Unit) => r = r0) (fun _ t => zz_B D A (zg_W ML ad cA σf) (zg_T ML cA) t) A) (List.toArray [.ref (ad 0), .int a1]) s 0 0 A) (F0 m 10 ls []) := by
    intro k10_
    induction k10_ with
    | zero =>
        intro σ hf10_ H10_ locs10_ ls10_ Z10_ hl10_
        exact zNone hf10_
    | succ k10_ ih10_ =>
        intro σ hf10_ H10_ locs10_ ls10_ Z10_ hl10_
        replace hf10_ : B_X7_both_10 (G_mp d) a1 (L_X7_both_10 (G_mp d) a1 k10_) σ = some (r0, σf) := hf10_
        unfold B_X7_both_10 at hf10_
        refine lv_aload_n hx hb dX7_both_10 rfl (lv_at hl10_ 0 rfl) ?_
        refine lv_bipush (v := 38) hx hb dX7_both_11 (by decide) ?_
        obtain ⟨r1, σ2, hc3, hf4⟩ := zBd hf10_
        clear hf10_
        refine zy_ci (r0 := r1) (WS1 := zg_W ML ad cA σ2) (TYS1 := zg_T ML cA) Z10_ (va_runV (As := [.int 38]) (rest := []) X (c_X7_isSign l D V ad cA 38 σ r1 σ2 hc3 H10_.size) (cwV 1 hts gX7_both_X7_isSign rfl rfl rfl ⟨rfl, zh_X7_isSign⟩ ⟨show 0 + 1 ≤ 3 + (d + 1) by omega, show 8 + (2 + 11) + 0 ≤ 68 + 22 * (d + 1) by omega⟩) (zy_pV (ci := 7) Z10_ mL_ok mk_0 rfl rfl) rfl rfl hl10_.1 rfl (lv_room (Nat.le_of_ble_eq_true rfl)) dX7_both_13 ⟨Nat.le_of_ble_eq_true rfl, Nat.le_of_ble_eq_true rfl⟩) (fun H5 lo6 Z7 => ?_)
        clear Z10_ hc3
        refine lv_if_eq (tgt := 43) hx hb dX7_both_16 (by decide) (fun b8 => ?_) (fun b8 => ?_)
        · have hf9 := zYes hf4 b8
          clear hf4
          refine lv_iconst (v := 1) hx hb dX7_both_43 (by decide) ?_
          exact zy_zret X hr hlk Z7 (by decide) (zEnd hf9) dX7_both_44
        · have hf10 := zNot hf4 b8
          clear hf4
          refine lv_aload_n hx hb dX7_both_19 rfl (lv_at hl10_ 0 rfl) ?_
          obtain ⟨r11, σ12, hc13, hf14⟩ := zBd hf10
          clear hf10
          refine zy_cv (WS1 := zg_W ML ad cA σ12) (TYS1 := zg_T ML cA) Z7 (va_runV (As := []) (rest := []) X (c_X7_nextToken l D V ad cA  σ2 r11 σ12 hc13 H5.size) (cwV 0 hts gX7_both_X7_nextToken rfl rfl rfl ⟨rfl, zh_X7_nextToken⟩ ⟨show 2 + 1 ≤ 3 + (d + 1) by omega, show 8 + (3 + 11) + 46 ≤ 68 + 22 * (d + 1) by omega⟩) (zy_pV (ci := 7) Z7 mL_ok mk_0 rfl rfl) rfl rfl hl10_.1 rfl (lv_room (Nat.le_of_ble_eq_true rfl)) dX7_both_20 ⟨Nat.le_of_ble_eq_true rfl, Nat.le_of_ble_eq_true rfl⟩) (fun H15 lo16 Z17 => ?_)
          clear Z7 hc13
          refine lv_aload_n hx hb dX7_both_23 rfl (lv_at hl10_ 0 rfl) ?_
          refine lv_iload_n hx hb dX7_both_24 rfl (lv_at hl10_ 1 rfl) ?_
          obtain ⟨r18, σ19, hc20, hf21⟩ := zBd hf14
          clear hf14
          refine zy_ci (r0 := r18) (WS1 := zg_W ML ad cA σ19) (TYS1 := zg_T ML cA) Z17 (va_runV (As := [.int a1]) (rest := []) X ((ih.2.2.1) a1 σ12 r18 σ19 hc20 H15.size) (cwV 1 hts gX7_both_X7_test rfl rfl rfl ⟨rfl, zh_X7_test⟩ ⟨show 3 + d + 1 ≤ 3 + (d + 1) by omega, show 8 + (3 + 11) + (68 + 22 * d) ≤ 68 + 22 * (d + 1) by omega⟩) (zy_pV (ci := 7) Z17 mL_ok mk_0 rfl rfl) rfl rfl hl10_.1 rfl (lv_room (Nat.le_of_ble_eq_true rfl)) dX7_both_25 ⟨Nat.le_of_ble_eq_true rfl, Nat.le_of_ble_eq_true rfl⟩) (fun H22 lo23 Z24 => ?_)
          clear Z17 hc20
          refine lv_if_ne (tgt := 33) hx hb dX7_both_28 (by decide) (fun b25 => ?_) (fun b25 => ?_)
          · have hf26 := zNot hf21 b25
            clear hf21
            refine lv_aload_n hx hb dX7_both_33 rfl (lv_at hl10_ 0 rfl) ?_
            refine lv_iconst (v := 2) hx hb dX7_both_34 (by decide) ?_
            refine lv_bipush (v := 38) hx hb dX7_both_35 (by decide) ?_
            obtain ⟨r27, σ28, hc29, hf30⟩ := zBd hf26
            clear hf26
            refine zy_cv (WS1 := zg_W ML ad cA σ28) (TYS1 := zg_T ML cA) Z24 (va_runV (As := [.int 2, .int 38]) (rest := []) X (c_X7_step l D V ad cA 2 38 σ19 r27 σ28 hc29 H22.size) (cwV 2 hts gX7_both_X7_step rfl rfl rfl ⟨rfl, zh_X7_step⟩ ⟨show 0 + 1 ≤ 3 + (d + 1) by omega, show 8 + (3 + 11) + 0 ≤ 68 + 22 * (d + 1) by omega⟩) (zy_pV (ci := 7) Z24 mL_ok mk_0 rfl rfl) rfl rfl hl10_.1 rfl (lv_room (Nat.le_of_ble_eq_true rfl)) dX7_both_37 ⟨Nat.le_of_ble_eq_true rfl, Nat.le_of_ble_eq_true rfl⟩) (fun H31 lo32 Z33 => ?_)
            clear Z24 hc29
            refine lv_goto (tgt := 10) hx hb dX7_both_40 (by decide) ?_
            exact ih10_ σ28 hf30 _ _ _ Z33 (lv_sub hl10_ [0, 1] rfl)
          · have hf34 := zYes hf21 b25
            clear hf21
            refine lv_iconst (v := 0) hx hb dX7_both_31 (by decide) ?_
            exact zy_zret X hr hlk Z24 (by decide) (zEnd hf34) dX7_both_32
  refine lv_aload_n hx hb dX7_both_0 rfl (lv_at hl 0 rfl) ?_
  refine lv_iload_n hx hb dX7_both_1 rfl (lv_at hl 1 rfl) ?_
  obtain ⟨r35, σ36, hc37, hf38⟩ := zBd hf
  clear hf
  refine zy_ci (r0 := r35) (WS1 := zg_W ML ad cA σ36) (TYS1 := zg_T ML cA) Z (va_runV (As := [.int a1]) (rest := []) X ((ih.2.2.1) a1 σ r35 σ36 hc37 s.heap.size) (cwV 1 hts gX7_both_X7_test rfl rfl rfl ⟨rfl, zh_X7_test⟩ ⟨show 3 + d + 1 ≤ 3 + (d + 1) by omega, show 8 + (3 + 11) + (68 + 22 * d) ≤ 68 + 22 * (d + 1) by omega⟩) (zy_pV (ci := 7) Z mL_ok mk_0 rfl rfl) rfl rfl hl.1 rfl (lv_room (Nat.le_of_ble_eq_true rfl)) dX7_both_2 ⟨Nat.le_of_ble_eq_true rfl, Nat.le_of_ble_eq_true rfl⟩) (fun H39 lo40 Z41 => ?_)
  clear Z hc37
  refine lv_if_ne (tgt := 10) hx hb dX7_both_5 (by decide) (fun b42 => ?_) (fun b42 => ?_)
  · have hf43 := zNot hf38 b42
    clear hf38
    exact b10_ zfu σ36 hf43 _ _ _ Z41 (lv_sub hl [0, 1] rfl)
  · have hf44 := zYes hf38 b42
    clear hf38
    refine lv_iconst (v := 0) hx hb dX7_both_8 (by decide) ?_
    exact zy_zret X hr hlk Z41 (by decide) (zEnd hf44) dX7_both_9

set_option maxHeartbeats 4000000 in
set_option maxRecDepth 100000 in
theorem c_X7_test_s (l : Launch) (D : va_G) (V : zz_V) (ad : Nat → Nat) (cA : Nat → ClassId) (d : Nat) (ih : zG_mp l D V ad cA d) (a1 : Int32) (σ : zg_S) (r0 : Int32) (σf : zg_S) (hf : f_X7_test (G_mp d) a1 σ = some (r0, σf)) : zM_I l yX7_test wsX7_test (3 + (d + 1)) (68 + 22 * (d + 1)) D V ML ad cA [.ref (ad 0), .int a1] σ r0 σf := by
  intro sz
  refine Met.ofW (cc := cX7_test) (maxL := 3) (ret := (some .boolean)) (by decide) rfl ?_
  intro p e s m args below meth c s₁ B hml hv
  obtain ⟨rfl, hC⟩ := hv
  have hx := B.exec
  have hb := B.bytes
  have hr := B.returns
  have hts := atoms_spec (ws := wsX7_test) B.pre
  have hown : s.vm.findClass RX7 = some m.cls := findClass_of_methodNamed B.named
  have hlk := B.notSynchronized
  have X : CallFix p m c cX7_test 3 s _ wsX7_test RX7 := ⟨hx, hb, hml, hown, hts⟩
  have Z := zz_enter hC
  generalize va_A (zg_W ML ad cA σ) sz = A at Z ⊢
  have hl := lv_entry ([.ref (ad 0), .int a1]) (n := 3) (Nat.le_of_ble_eq_true rfl)
  rw [lg_entry_eq]
  generalize (lg_sl ([.ref (ad 0), .int a1]) ++ List.replicate (3 - (lg_sl ([.ref (ad 0), .int a1])).length) Slot.unset).toArray = ls at hl ⊢
  have hl : lv_has ls 3 [(0, .ref (ad 0)), (1, .int a1)] := hl
  unfold f_X7_test at hf
  have b37_ : ∀ (σ : zg_S), B_X7_test_37 (G_mp d) a1  σ = some (r0, σf) → ∀ (H : Heap) (locs : List Loc) (ls : Array Slot), zz_S D V A s (zg_W ML ad cA σ) (zg_T ML cA) H locs → lv_has ls 3 [(0, .ref (ad 0)), (1, .int a1)] → W p l e (headSpec wsX7_test { frames := (3 + (d + 1)), cells := 0, slots := 0, locals := (68 + 22 * (d + 1)) }).room s m (List.toArray [.ref (ad 0), .int a1]) below meth c H locs 0 0 (MQ below (va_Qi (fun r (_ : Unit) => r = r0) (fun _ t => zz_B D A (zg_W ML ad cA σf) (zg_T ML cA) t) A) (List.toArray [.ref (ad 0), .int a1]) s 0 0 A) (F0 m 37 ls []) := by
    intro σ hf37_ H37_ locs37_ ls37_ Z37_ hl37_
    unfold B_X7_test_37 at hf37_
    refine lv_aload_n hx hb dX7_test_37 rfl (lv_at hl37_ 0 rfl) ?_
    refine zy_get (v := .int (σ 0 19)) X Z37_ mL_ok mk_0 rfl rfl (fun w h => List.mem_cons_of_mem _ (List.mem_append_right _ h)) 19 rfl (zz_m 1 rfl) rfl dX7_test_38 ?_
    refine lv_istore_n (lv' := [(2, .int (σ 0 19)), (0, .ref (ad 0)), (1, .int a1)]) hx hb dX7_test_41 rfl hl37_ (by decide) rfl (fun ls2 hl1 => ?_)
    clear hl37_
    refine lv_aload_n hx hb dX7_test_42 rfl (lv_at hl1 1 rfl) ?_
    obtain ⟨r3, σ4, hc5, hf6⟩ := zBd hf37_
    clear hf37_
    refine zy_cv (WS1 := zg_W ML ad cA σ4) (TYS1 := zg_T ML cA) Z37_ (va_runV (As := []) (rest := []) X (c_X7_nextToken l D V ad cA  σ r3 σ4 hc5 H37_.size) (cwV 0 hts gX7_test_X7_nextToken rfl rfl rfl ⟨rfl, zh_X7_nextToken⟩ ⟨show 2 + 1 ≤ 3 + (d + 1) by omega, show 8 + (3 + 11) + 46 ≤ 68 + 22 * (d + 1) by omega⟩) (zy_pV (ci := 7) Z37_ mL_ok mk_0 rfl rfl) rfl rfl hl1.1 rfl (lv_room (Nat.le_of_ble_eq_true rfl)) dX7_test_43 ⟨Nat.le_of_ble_eq_true rfl, Nat.le_of_ble_eq_true rfl⟩) (fun H7 lo8 Z9 => ?_)
    clear Z37_ hc5
    refine lv_aload_n hx hb dX7_test_46 rfl (lv_at hl1 1 rfl) ?_
    refine lv_iload_n hx hb dX7_test_47 rfl (lv_at hl1 2 rfl) ?_
    obtain ⟨r10, σ11, hc12, hf13⟩ := zBd hf6
    clear hf6
    refine zy_ci (r0 := r10) (WS1 := zg_W ML ad cA σ11) (TYS1 := zg_T ML cA) Z9 (va_runV (As := [.int a1]) (rest := []) X ((ih.2.2.2.1) a1 σ4 r10 σ11 hc12 H7.size) (cwV 1 hts gX7_test_X7_sum rfl rfl rfl ⟨rfl, zh_X7_sum⟩ ⟨show 3 + d + 1 ≤ 3 + (d + 1) by omega, show 8 + (3 + 11) + (68 + 22 * d) ≤ 68 + 22 * (d + 1) by omega⟩) (zy_pV (ci := 7) Z9 mL_ok mk_0 rfl rfl) rfl rfl hl1.1 rfl (lv_room (Nat.le_of_ble_eq_true rfl)) dX7_test_48 ⟨Nat.le_of_ble_eq_true rfl, Nat.le_of_ble_eq_true rfl⟩) (fun H14 lo15 Z16 => ?_)
    clear Z9 hc12
    refine lv_if_ne (tgt := 56) hx hb dX7_test_51 (by decide) (fun b17 => ?_) (fun b17 => ?_)
    · have hf18 := zNot hf13 b17
      clear hf13
      refine lv_aload_n hx hb dX7_test_56 rfl (lv_at hl1 1 rfl) ?_
      refine lv_iconst (v := 2) hx hb dX7_test_57 (by decide) ?_
      refine lv_iload_n hx hb dX7_test_58 rfl (lv_at hl1 0 rfl) ?_
      obtain ⟨r19, σ20, hc21, hf22⟩ := zBd hf18
      clear hf18
      refine zy_cv (WS1 := zg_W ML ad cA σ20) (TYS1 := zg_T ML cA) Z16 (va_runV (As := [.int 2, .int (σ 0 19)]) (rest := []) X (c_X7_step l D V ad cA 2 (σ 0 19) σ11 r19 σ20 hc21 H14.size) (cwV 2 hts gX7_test_X7_step rfl rfl rfl ⟨rfl, zh_X7_step⟩ ⟨show 0 + 1 ≤ 3 + (d + 1) by omega, show 8 + (3 + 11) + 0 ≤ 68 + 22 * (d + 1) by omega⟩) (zy_pV (ci := 7) Z16 mL_ok mk_0 rfl rfl) rfl rfl hl1.1 rfl (lv_room (Nat.le_of_ble_eq_true rfl)) dX7_test_59 ⟨Nat.le_of_ble_eq_true rfl, Nat.le_of_ble_eq_true rfl⟩) (fun H23 lo24 Z25 => ?_)
      clear Z16 hc21
      refine lv_iconst (v := 1) hx hb dX7_test_62 (by decide) ?_
      exact zy_zret X hr hlk Z25 (by decide) (zEnd hf22) dX7_test_63
    · have hf26 := zYes hf13 b17
      clear hf13
      refine lv_iconst (v := 0) hx hb dX7_test_54 (by decide) ?_
      exact zy_zret X hr hlk Z16 (by decide) (zEnd hf26) dX7_test_55
  refine lv_aload_n hx hb dX7_test_0 rfl (lv_at hl 0 rfl) ?_
  refine lv_iload_n hx hb dX7_test_1 rfl (lv_at hl 1 rfl) ?_
  obtain ⟨r27, σ28, hc29, hf30⟩ := zBd hf
  clear hf
  refine zy_ci (r0 := r27) (WS1 := zg_W ML ad cA σ28) (TYS1 := zg_T ML cA) Z (va_runV (As := [.int a1]) (rest := []) X ((ih.2.2.2.1) a1 σ r27 σ28 hc29 s.heap.size) (cwV 1 hts gX7_test_X7_sum rfl rfl rfl ⟨rfl, zh_X7_sum⟩ ⟨show 3 + d + 1 ≤ 3 + (d + 1) by omega, show 8 + (3 + 11) + (68 + 22 * d) ≤ 68 + 22 * (d + 1) by omega⟩) (zy_pV (ci := 7) Z mL_ok mk_0 rfl rfl) rfl rfl hl.1 rfl (lv_room (Nat.le_of_ble_eq_true rfl)) dX7_test_2 ⟨Nat.le_of_ble_eq_true rfl, Nat.le_of_ble_eq_true rfl⟩) (fun H31 lo32 Z33 => ?_)
  clear Z hc29
  refine lv_if_ne (tgt := 10) hx hb dX7_test_5 (by decide) (fun b34 => ?_) (fun b34 => ?_)
  · have hf35 := zNot hf30 b34
    clear hf30
    refine lv_aload_n hx hb dX7_test_10 rfl (lv_at hl 0 rfl) ?_
    refine lv_bipush (v := 60) hx hb dX7_test_11 (by decide) ?_
    obtain ⟨r36, σ37, hc38, hf39⟩ := zBd hf35
    clear hf35
    refine zy_ci (r0 := r36) (WS1 := zg_W ML ad cA σ37) (TYS1 := zg_T ML cA) Z33 (va_runV (As := [.int 60]) (rest := []) X (c_X7_isSign l D V ad cA 60 σ28 r36 σ37 hc38 H31.size) (cwV 1 hts gX7_test_X7_isSign rfl rfl rfl ⟨rfl, zh_X7_isSign⟩ ⟨show 0 + 1 ≤ 3 + (d + 1) by omega, show 8 + (2 + 11) + 0 ≤ 68 + 22 * (d + 1) by omega⟩) (zy_pV (ci := 7) Z33 mL_ok mk_0 rfl rfl) rfl rfl hl.1 rfl (lv_room (Nat.le_of_ble_eq_true rfl)) dX7_test_13 ⟨Nat.le_of_ble_eq_true rfl, Nat.le_of_ble_eq_true rfl⟩) (fun H40 lo41 Z42 => ?_)
    clear Z33 hc38
    refine lv_if_ne (tgt := 37) hx hb dX7_test_16 (by decide) (fun b43 => ?_) (fun b43 => ?_)
    · have hf44 := zNot hf39 b43
      clear hf39
      exact b37_ σ37 hf44 _ _ _ Z42 (lv_sub hl [0, 1] rfl)
    · have hf45 := zYes hf39 b43
      clear hf39
      refine lv_aload_n hx hb dX7_test_19 rfl (lv_at hl 0 rfl) ?_
      refine lv_bipush (v := 61) hx hb dX7_test_20 (by decide) ?_
      obtain ⟨r46, σ47, hc48, hf49⟩ := zBd hf45
      clear hf45
      refine zy_ci (r0 := r46) (WS1 := zg_W ML ad cA σ47) (TYS1 := zg_T ML cA) Z42 (va_runV (As := [.int 61]) (rest := []) X (c_X7_isSign l D V ad cA 61 σ37 r46 σ47 hc48 H40.size) (cwV 1 hts gX7_test_X7_isSign rfl rfl rfl ⟨rfl, zh_X7_isSign⟩ ⟨show 0 + 1 ≤ 3 + (d + 1) by omega, show 8 + (2 + 11) + 0 ≤ 68 + 22 * (d + 1) by omega⟩) (zy_pV (ci := 7) Z42 mL_ok mk_0 rfl rfl) rfl rfl hl.1 rfl (lv_room (Nat.le_of_ble_eq_true rfl)) dX7_test_22 ⟨Nat.le_of_ble_eq_true rfl, Nat.le_of_ble_eq_true rfl⟩) (fun H50 lo51 Z52 => ?_)
      clear Z42 hc48
      refine lv_if_ne (tgt := 37) hx hb dX7_test_25 (by decide) (fun b53 => ?_) (fun b53 => ?_)
      · have hf54 := zNot hf49 b53
        clear hf49
        exact b37_ σ47 hf54 _ _ _ Z52 (lv_sub hl [0, 1] rfl)
      · have hf55 := zYes hf49 b53
        clear hf49
        refine lv_aload_n hx hb dX7_test_28 rfl (lv_at hl 0 rfl) ?_
        refine lv_bipush (v := 62) hx hb dX7_test_29 (by decide) ?_
        obtain ⟨r56, σ57, hc58, hf59⟩ := zBd hf55
        clear hf55
        refine zy_ci (r0 := r56) (WS1 := zg_W ML ad cA σ57) (TYS1 := zg_T ML cA) Z52 (va_runV (As := [.int 62]) (rest := []) X (c_X7_isSign l D V ad cA 62 σ47 r56 σ57 hc58 H50.size) (cwV 1 hts gX7_test_X7_isSign rfl rfl rfl ⟨rfl, zh_X7_isSign⟩ ⟨show 0 + 1 ≤ 3 + (d + 1) by omega, show 8 + (2 + 11) + 0 ≤ 68 + 22 * (d + 1) by omega⟩) (zy_pV (ci := 7) Z52 mL_ok mk_0 rfl rfl) rfl rfl hl.1 rfl (lv_room (Nat.le_of_ble_eq_true rfl)) dX7_test_31 ⟨Nat.le_of_ble_eq_true rfl, Nat.le_of_ble_eq_true rfl⟩) (fun H60 lo61 Z62 => ?_)
        clear Z52 hc58
        refine lv_if_eq (tgt := 62) hx hb dX7_test_34 (by decide) (fun b63 => ?_) (fun b63 => ?_)
        · have hf64 := zYes hf59 b63
          clear hf59
          refine lv_iconst (v := 1) hx hb dX7_test_62 (by decide) ?_
          exact zy_zret X hr hlk Z62 (by decide) (zEnd hf64) dX7_test_63
        · have hf65 := zNot hf59 b63
          clear hf59
          exact b37_ σ57 hf65 _ _ _ Z62 (lv_sub hl [0, 1] rfl)
  · have hf66 := zYes hf30 b34
    clear hf30
    refine lv_iconst (v := 0) hx hb dX7_test_8 (by decide) ?_
    exact zy_zret X hr hlk Z33 (by decide) (zEnd hf66) dX7_test_9

set_option maxHeartbeats 4000000 in
set_option maxRecDepth 100000 in
theorem c_X7_sum_s (l : Launch) (D : va_G) (V : zz_V) (ad : Nat → Nat) (cA : Nat → ClassId) (d : Nat) (ih : zG_mp l D V ad cA d) (a1 : Int32) (σ : zg_S) (r0 : Int32) (σf : zg_S) (hf : f_X7_sum (G_mp d) a1 σ = some (r0, σf)) : zM_I l yX7_sum wsX7_sum (3 + (d + 1)) (68 + 22 * (d + 1)) D V ML ad cA [.ref (ad 0), .int a1] σ r0 σf := by
  intro sz
  refine Met.ofW (cc := cX7_sum) (maxL := 3) (ret := (some .boolean)) (by decide) rfl ?_
  intro p e s m args below meth c s₁ B hml hv
  obtain ⟨rfl, hC⟩ := hv
  have hx := B.exec
  have hb := B.bytes
  have hr := B.returns
  have hts := atoms_spec (ws := wsX7_sum) B.pre
  have hown : s.vm.findClass RX7 = some m.cls := findClass_of_methodNamed B.named
  have hlk := B.notSynchronized
  have X : CallFix p m c cX7_sum 3 s _ wsX7_sum RX7 := ⟨hx, hb, hml, hown, hts⟩
  have Z := zz_enter hC
  generalize va_A (zg_W ML ad cA σ) sz = A at Z ⊢
  have hl := lv_entry ([.ref (ad 0), .int a1]) (n := 3) (Nat.le_of_ble_eq_true rfl)
  rw [lg_entry_eq]
  generalize (lg_sl ([.ref (ad 0), .int a1]) ++ List.replicate (3 - (lg_sl ([.ref (ad 0), .int a1])).length) Slot.unset).toArray = ls at hl ⊢
  have hl : lv_has ls 3 [(0, .ref (ad 0)), (1, .int a1)] := hl
  unfold f_X7_sum at hf
  have b10_ : ∀ (k10_ : Nat) (σ : zg_S), L_X7_sum_10 (G_mp d) a1 k10_  σ = some (r0, σf) → ∀ (H : Heap) (locs : List Loc) (ls : Array Slot), zz_S D V A s (zg_W ML ad cA σ) (zg_T ML cA) H locs → lv_has ls 3 [(0, .ref (ad 0)), (1, .int a1)] → W p l e (headSpec wsX7_sum { frames := (3 + (d + 1)), cells := 0, slots := 0, locals := (68 + 22 * (d + 1)) }).room s m (List.toArray [.ref (ad 0), .int a1]) below meth c H locs 0 0 (MQ below (va_Qi (fun r (_ : Unit) => r = r0) (fun _ t => zz_B D A (zg_W ML ad cA σf) (zg_T ML cA) t) A) (List.toArray [.ref (ad 0), .int a1]) s 0 0 A) (F0 m 10 ls []) := by
    intro k10_
    induction k10_ with
    | zero =>
        intro σ hf10_ H10_ locs10_ ls10_ Z10_ hl10_
        exact zNone hf10_
    | succ k10_ ih10_ =>
        intro σ hf10_ H10_ locs10_ ls10_ Z10_ hl10_
        replace hf10_ : B_X7_sum_10 (G_mp d) a1 (L_X7_sum_10 (G_mp d) a1 k10_) σ = some (r0, σf) := hf10_
        unfold B_X7_sum_10 at hf10_
        have b28_ : ∀ (σ : zg_S), B_X7_sum_28 (G_mp d) a1 (L_X7_sum_10 (G_mp d) a1 k10_)  σ = some (r0, σf) → ∀ (H : Heap) (locs : List Loc) (ls : Array Slot), zz_S D V A s (zg_W ML ad cA σ) (zg_T ML cA) H locs → lv_has ls 3 [(0, .ref (ad 0)), (1, .int a1)] → W p l e (headSpec wsX7_sum { frames := (3 + (d + 1)), cells := 0, slots := 0, locals := (68 + 22 * (d + 1)) }).room s m (List.toArray [.ref (ad 0), .int a1]) below meth c H locs 0 0 (MQ below (va_Qi (fun r (_ : Unit) => r = r0) (fun _ t => zz_B D A (zg_W ML ad cA σf) (zg_T ML cA) t) A) (List.toArray [.ref (ad 0), .int a1]) s 0 0 A) (F0 m 28 ls []) := by
          intro σ hf28_ H28_ locs28_ ls28_ Z28_ hl28_
          unfold B_X7_sum_28 at hf28_
          refine lv_aload_n hx hb dX7_sum_28 rfl (lv_at hl28_ 0 rfl) ?_
          refine zy_get (v := .int (σ 0 19)) X Z28_ mL_ok mk_0 rfl rfl (fun w h => List.mem_cons_of_mem _ (List.mem_append_right _ h)) 19 rfl (zz_m 1 rfl) rfl dX7_sum_29 ?_
          refine lv_istore_n (lv' := [(2, .int (σ 0 19)), (0, .ref (ad 0)), (1, .int a1)]) hx hb dX7_sum_32 rfl hl28_ (by decide) rfl (fun ls2 hl1 => ?_)
          clear hl28_
          refine lv_aload_n hx hb dX7_sum_33 rfl (lv_at hl1 1 rfl) ?_
          obtain ⟨r3, σ4, hc5, hf6⟩ := zBd hf28_
          clear hf28_
          refine zy_cv (WS1 := zg_W ML ad cA σ4) (TYS1 := zg_T ML cA) Z28_ (va_runV (As := []) (rest := []) X (c_X7_nextToken l D V ad cA  σ r3 σ4 hc5 H28_.size) (cwV 0 hts gX7_sum_X7_nextToken rfl rfl rfl ⟨rfl, zh_X7_nextToken⟩ ⟨show 2 + 1 ≤ 3 + (d + 1) by omega, show 8 + (3 + 11) + 46 ≤ 68 + 22 * (d + 1) by omega⟩) (zy_pV (ci := 7) Z28_ mL_ok mk_0 rfl rfl) rfl rfl hl1.1 rfl (lv_room (Nat.le_of_ble_eq_true rfl)) dX7_sum_34 ⟨Nat.le_of_ble_eq_true rfl, Nat.le_of_ble_eq_true rfl⟩) (fun H7 lo8 Z9 => ?_)
          clear Z28_ hc5
          refine lv_aload_n hx hb dX7_sum_37 rfl (lv_at hl1 1 rfl) ?_
          refine lv_iload_n hx hb dX7_sum_38 rfl (lv_at hl1 2 rfl) ?_
          obtain ⟨r10, σ11, hc12, hf13⟩ := zBd hf6
          clear hf6
          refine zy_ci (r0 := r10) (WS1 := zg_W ML ad cA σ11) (TYS1 := zg_T ML cA) Z9 (va_runV (As := [.int a1]) (rest := []) X ((ih.2.2.2.2.1) a1 σ4 r10 σ11 hc12 H7.size) (cwV 1 hts gX7_sum_X7_term rfl rfl rfl ⟨rfl, zh_X7_term⟩ ⟨show 3 + d + 1 ≤ 3 + (d + 1) by omega, show 8 + (3 + 11) + (68 + 22 * d) ≤ 68 + 22 * (d + 1) by omega⟩) (zy_pV (ci := 7) Z9 mL_ok mk_0 rfl rfl) rfl rfl hl1.1 rfl (lv_room (Nat.le_of_ble_eq_true rfl)) dX7_sum_39 ⟨Nat.le_of_ble_eq_true rfl, Nat.le_of_ble_eq_true rfl⟩) (fun H14 lo15 Z16 => ?_)
          clear Z9 hc12
          refine lv_if_ne (tgt := 47) hx hb dX7_sum_42 (by decide) (fun b17 => ?_) (fun b17 => ?_)
          · have hf18 := zNot hf13 b17
            clear hf13
            refine lv_aload_n hx hb dX7_sum_47 rfl (lv_at hl1 1 rfl) ?_
            refine lv_iconst (v := 2) hx hb dX7_sum_48 (by decide) ?_
            refine lv_iload_n hx hb dX7_sum_49 rfl (lv_at hl1 0 rfl) ?_
            obtain ⟨r19, σ20, hc21, hf22⟩ := zBd hf18
            clear hf18
            refine zy_cv (WS1 := zg_W ML ad cA σ20) (TYS1 := zg_T ML cA) Z16 (va_runV (As := [.int 2, .int (σ 0 19)]) (rest := []) X (c_X7_step l D V ad cA 2 (σ 0 19) σ11 r19 σ20 hc21 H14.size) (cwV 2 hts gX7_sum_X7_step rfl rfl rfl ⟨rfl, zh_X7_step⟩ ⟨show 0 + 1 ≤ 3 + (d + 1) by omega, show 8 + (3 + 11) + 0 ≤ 68 + 22 * (d + 1) by omega⟩) (zy_pV (ci := 7) Z16 mL_ok mk_0 rfl rfl) rfl rfl hl1.1 rfl (lv_room (Nat.le_of_ble_eq_true rfl)) dX7_sum_50 ⟨Nat.le_of_ble_eq_true rfl, Nat.le_of_ble_eq_true rfl⟩) (fun H23 lo24 Z25 => ?_)
            clear Z16 hc21
            refine lv_goto (tgt := 10) hx hb dX7_sum_53 (by decide) ?_
            exact ih10_ σ20 hf22 _ _ _ Z25 (lv_sub hl1 [1, 2] rfl)
          · have hf26 := zYes hf13 b17
            clear hf13
            refine lv_iconst (v := 0) hx hb dX7_sum_45 (by decide) ?_
            exact zy_zret X hr hlk Z16 (by decide) (zEnd hf26) dX7_sum_46
        refine lv_aload_n hx hb dX7_sum_10 rfl (lv_at hl10_ 0 rfl) ?_
        refine lv_bipush (v := 43) hx hb dX7_sum_11 (by decide) ?_
        obtain ⟨r27, σ28, hc29, hf30⟩ := zBd hf10_
        clear hf10_
        refine zy_ci (r0 := r27) (WS1 := zg_W ML ad cA σ28) (TYS1 := zg_T ML cA) Z10_ (va_runV (As := [.int 43]) (rest := []) X (c_X7_isSign l D V ad cA 43 σ r27 σ28 hc29 H10_.size) (cwV 1 hts gX7_sum_X7_isSign rfl rfl rfl ⟨rfl, zh_X7_isSign⟩ ⟨show 0 + 1 ≤ 3 + (d + 1) by omega, show 8 + (2 + 11) + 0 ≤ 68 + 22 * (d + 1) by omega⟩) (zy_pV (ci := 7) Z10_ mL_ok mk_0 rfl rfl) rfl rfl hl10_.1 rfl (lv_room (Nat.le_of_ble_eq_true rfl)) dX7_sum_13 ⟨Nat.le_of_ble_eq_true rfl, Nat.le_of_ble_eq_true rfl⟩) (fun H31 lo32 Z33 => ?_)
        clear Z10_ hc29
        refine lv_if_ne (tgt := 28) hx hb dX7_sum_16 (by decide) (fun b34 => ?_) (fun b34 => ?_)
        · have hf35 := zNot hf30 b34
          clear hf30
          exact b28_ σ28 hf35 _ _ _ Z33 (lv_sub hl10_ [0, 1] rfl)
        · have hf36 := zYes hf30 b34
          clear hf30
          refine lv_aload_n hx hb dX7_sum_19 rfl (lv_at hl10_ 0 rfl) ?_
          refine lv_bipush (v := 45) hx hb dX7_sum_20 (by decide) ?_
          obtain ⟨r37, σ38, hc39, hf40⟩ := zBd hf36
          clear hf36
          refine zy_ci (r0 := r37) (WS1 := zg_W ML ad cA σ38) (TYS1 := zg_T ML cA) Z33 (va_runV (As := [.int 45]) (rest := []) X (c_X7_isSign l D V ad cA 45 σ28 r37 σ38 hc39 H31.size) (cwV 1 hts gX7_sum_X7_isSign rfl rfl rfl ⟨rfl, zh_X7_isSign⟩ ⟨show 0 + 1 ≤ 3 + (d + 1) by omega, show 8 + (2 + 11) + 0 ≤ 68 + 22 * (d + 1) by omega⟩) (zy_pV (ci := 7) Z33 mL_ok mk_0 rfl rfl) rfl rfl hl10_.1 rfl (lv_room (Nat.le_of_ble_eq_true rfl)) dX7_sum_22 ⟨Nat.le_of_ble_eq_true rfl, Nat.le_of_ble_eq_true rfl⟩) (fun H41 lo42 Z43 => ?_)
          clear Z33 hc39
          refine lv_if_eq (tgt := 56) hx hb dX7_sum_25 (by decide) (fun b44 => ?_) (fun b44 => ?_)
          · have hf45 := zYes hf40 b44
            clear hf40
            refine lv_iconst (v := 1) hx hb dX7_sum_56 (by decide) ?_
            exact zy_zret X hr hlk Z43 (by decide) (zEnd hf45) dX7_sum_57
          · have hf46 := zNot hf40 b44
            clear hf40
            exact b28_ σ38 hf46 _ _ _ Z43 (lv_sub hl10_ [0, 1] rfl)
  refine lv_aload_n hx hb dX7_sum_0 rfl (lv_at hl 0 rfl) ?_
  refine lv_iload_n hx hb dX7_sum_1 rfl (lv_at hl 1 rfl) ?_
  obtain ⟨r47, σ48, hc49, hf50⟩ := zBd hf
  clear hf
  refine zy_ci (r0 := r47) (WS1 := zg_W ML ad cA σ48) (TYS1 := zg_T ML cA) Z (va_runV (As := [.int a1]) (rest := []) X ((ih.2.2.2.2.1) a1 σ r47 σ48 hc49 s.heap.size) (cwV 1 hts gX7_sum_X7_term rfl rfl rfl ⟨rfl, zh_X7_term⟩ ⟨show 3 + d + 1 ≤ 3 + (d + 1) by omega, show 8 + (3 + 11) + (68 + 22 * d) ≤ 68 + 22 * (d + 1) by omega⟩) (zy_pV (ci := 7) Z mL_ok mk_0 rfl rfl) rfl rfl hl.1 rfl (lv_room (Nat.le_of_ble_eq_true rfl)) dX7_sum_2 ⟨Nat.le_of_ble_eq_true rfl, Nat.le_of_ble_eq_true rfl⟩) (fun H51 lo52 Z53 => ?_)
  clear Z hc49
  refine lv_if_ne (tgt := 10) hx hb dX7_sum_5 (by decide) (fun b54 => ?_) (fun b54 => ?_)
  · have hf55 := zNot hf50 b54
    clear hf50
    exact b10_ zfu σ48 hf55 _ _ _ Z53 (lv_sub hl [0, 1] rfl)
  · have hf56 := zYes hf50 b54
    clear hf50
    refine lv_iconst (v := 0) hx hb dX7_sum_8 (by decide) ?_
    exact zy_zret X hr hlk Z53 (by decide) (zEnd hf56) dX7_sum_9

set_option maxHeartbeats 4000000 in
set_option maxRecDepth 100000 in
theorem c_X7_term_s (l : Launch) (D : va_G) (V : zz_V) (ad : Nat → Nat) (cA : Nat → ClassId) (d : Nat) (ih : zG_mp l D V ad cA d) (a1 : Int32) (σ : zg_S) (r0 : Int32) (σf : zg_S) (hf : f_X7_term (G_mp d) a1 σ = some (r0, σf)) : zM_I l yX7_term wsX7_term (3 + (d + 1)) (68 + 22 * (d + 1)) D V ML ad cA [.ref (ad 0), .int a1] σ r0 σf := by
  intro sz
  refine Met.ofW (cc := cX7_term) (maxL := 3) (ret := (some .boolean)) (by decide) rfl ?_
  intro p e s m args below meth c s₁ B hml hv
  obtain ⟨rfl, hC⟩ := hv
  have hx := B.exec
  have hb := B.bytes
  have hr := B.returns
  have hts := atoms_spec (ws := wsX7_term) B.pre
  have hown : s.vm.findClass RX7 = some m.cls := findClass_of_methodNamed B.named
  have hlk := B.notSynchronized
  have X : CallFix p m c cX7_term 3 s _ wsX7_term RX7 := ⟨hx, hb, hml, hown, hts⟩
  have Z := zz_enter hC
  generalize va_A (zg_W ML ad cA σ) sz = A at Z ⊢
  have hl := lv_entry ([.ref (ad 0), .int a1]) (n := 3) (Nat.le_of_ble_eq_true rfl)
  rw [lg_entry_eq]
  generalize (lg_sl ([.ref (ad 0), .int a1]) ++ List.replicate (3 - (lg_sl ([.ref (ad 0), .int a1])).length) Slot.unset).toArray = ls at hl ⊢
  have hl : lv_has ls 3 [(0, .ref (ad 0)), (1, .int a1)] := hl
  unfold f_X7_term at hf
  have b10_ : ∀ (k10_ : Nat) (σ : zg_S), L_X7_term_10 (G_mp d) a1 k10_  σ = some (r0, σf) → ∀ (H : Heap) (locs : List Loc) (ls : Array Slot), zz_S D V A s (zg_W ML ad cA σ) (zg_T ML cA) H locs → lv_has ls 3 [(0, .ref (ad 0)), (1, .int a1)] → W p l e (headSpec wsX7_term { frames := (3 + (d + 1)), cells := 0, slots := 0, locals := (68 + 22 * (d + 1)) }).room s m (List.toArray [.ref (ad 0), .int a1]) below meth c H locs 0 0 (MQ below (va_Qi (fun r (_ : Unit) => r = r0) (fun _ t => zz_B D A (zg_W ML ad cA σf) (zg_T ML cA) t) A) (List.toArray [.ref (ad 0), .int a1]) s 0 0 A) (F0 m 10 ls []) := by
    intro k10_
    induction k10_ with
    | zero =>
        intro σ hf10_ H10_ locs10_ ls10_ Z10_ hl10_
        exact zNone hf10_
    | succ k10_ ih10_ =>
        intro σ hf10_ H10_ locs10_ ls10_ Z10_ hl10_
        replace hf10_ : B_X7_term_10 (G_mp d) a1 (L_X7_term_10 (G_mp d) a1 k10_) σ = some (r0, σf) := hf10_
        unfold B_X7_term_10 at hf10_
        have b28_ : ∀ (σ : zg_S), B_X7_term_28 (G_mp d) a1 (L_X7_term_10 (G_mp d) a1 k10_)  σ = some (r0, σf) → ∀ (H : Heap) (locs : List Loc) (ls : Array Slot), zz_S D V A s (zg_W ML ad cA σ) (zg_T ML cA) H locs → lv_has ls 3 [(0, .ref (ad 0)), (1, .int a1)] → W p l e (headSpec wsX7_term { frames := (3 + (d + 1)), cells := 0, slots := 0, locals := (68 + 22 * (d + 1)) }).room s m (List.toArray [.ref (ad 0), .int a1]) below meth c H locs 0 0 (MQ below (va_Qi (fun r (_ : Unit) => r = r0) (fun _ t => zz_B D A (zg_W ML ad cA σf) (zg_T ML cA) t) A) (List.toArray [.ref (ad 0), .int a1]) s 0 0 A) (F0 m 28 ls []) := by
          intro σ hf28_ H28_ locs28_ ls28_ Z28_ hl28_
          unfold B_X7_term_28 at hf28_
          refine lv_aload_n hx hb dX7_term_28 rfl (lv_at hl28_ 0 rfl) ?_
          refine zy_get (v := .int (σ 0 19)) X Z28_ mL_ok mk_0 rfl rfl (fun w h => List.mem_cons_of_mem _ (List.mem_append_right _ h)) 19 rfl (zz_m 1 rfl) rfl dX7_term_29 ?_
          refine lv_istore_n (lv' := [(2, .int (σ 0 19)), (0, .ref (ad 0)), (1, .int a1)]) hx hb dX7_term_32 rfl hl28_ (by decide) rfl (fun ls2 hl1 => ?_)
          clear hl28_
          refine lv_aload_n hx hb dX7_term_33 rfl (lv_at hl1 1 rfl) ?_
          obtain ⟨r3, σ4, hc5, hf6⟩ := zBd hf28_
          clear hf28_
          refine zy_cv (WS1 := zg_W ML ad cA σ4) (TYS1 := zg_T ML cA) Z28_ (va_runV (As := []) (rest := []) X (c_X7_nextToken l D V ad cA  σ r3 σ4 hc5 H28_.size) (cwV 0 hts gX7_term_X7_nextToken rfl rfl rfl ⟨rfl, zh_X7_nextToken⟩ ⟨show 2 + 1 ≤ 3 + (d + 1) by omega, show 8 + (3 + 11) + 46 ≤ 68 + 22 * (d + 1) by omega⟩) (zy_pV (ci := 7) Z28_ mL_ok mk_0 rfl rfl) rfl rfl hl1.1 rfl (lv_room (Nat.le_of_ble_eq_true rfl)) dX7_term_34 ⟨Nat.le_of_ble_eq_true rfl, Nat.le_of_ble_eq_true rfl⟩) (fun H7 lo8 Z9 => ?_)
          clear Z28_ hc5
          refine lv_aload_n hx hb dX7_term_37 rfl (lv_at hl1 1 rfl) ?_
          refine lv_iload_n hx hb dX7_term_38 rfl (lv_at hl1 2 rfl) ?_
          obtain ⟨r10, σ11, hc12, hf13⟩ := zBd hf6
          clear hf6
          refine zy_ci (r0 := r10) (WS1 := zg_W ML ad cA σ11) (TYS1 := zg_T ML cA) Z9 (va_runV (As := [.int a1]) (rest := []) X ((ih.2.2.2.2.2) a1 σ4 r10 σ11 hc12 H7.size) (cwV 1 hts gX7_term_X7_part0 rfl rfl rfl ⟨rfl, zh_X7_part0⟩ ⟨show 3 + d + 1 ≤ 3 + (d + 1) by omega, show 8 + (2 + 11) + (68 + 22 * d) ≤ 68 + 22 * (d + 1) by omega⟩) (zy_pV (ci := 7) Z9 mL_ok mk_0 rfl rfl) rfl rfl hl1.1 rfl (lv_room (Nat.le_of_ble_eq_true rfl)) dX7_term_39 ⟨Nat.le_of_ble_eq_true rfl, Nat.le_of_ble_eq_true rfl⟩) (fun H14 lo15 Z16 => ?_)
          clear Z9 hc12
          refine lv_if_ne (tgt := 47) hx hb dX7_term_42 (by decide) (fun b17 => ?_) (fun b17 => ?_)
          · have hf18 := zNot hf13 b17
            clear hf13
            refine lv_aload_n hx hb dX7_term_47 rfl (lv_at hl1 1 rfl) ?_
            refine lv_iconst (v := 2) hx hb dX7_term_48 (by decide) ?_
            refine lv_iload_n hx hb dX7_term_49 rfl (lv_at hl1 0 rfl) ?_
            obtain ⟨r19, σ20, hc21, hf22⟩ := zBd hf18
            clear hf18
            refine zy_cv (WS1 := zg_W ML ad cA σ20) (TYS1 := zg_T ML cA) Z16 (va_runV (As := [.int 2, .int (σ 0 19)]) (rest := []) X (c_X7_step l D V ad cA 2 (σ 0 19) σ11 r19 σ20 hc21 H14.size) (cwV 2 hts gX7_term_X7_step rfl rfl rfl ⟨rfl, zh_X7_step⟩ ⟨show 0 + 1 ≤ 3 + (d + 1) by omega, show 8 + (3 + 11) + 0 ≤ 68 + 22 * (d + 1) by omega⟩) (zy_pV (ci := 7) Z16 mL_ok mk_0 rfl rfl) rfl rfl hl1.1 rfl (lv_room (Nat.le_of_ble_eq_true rfl)) dX7_term_50 ⟨Nat.le_of_ble_eq_true rfl, Nat.le_of_ble_eq_true rfl⟩) (fun H23 lo24 Z25 => ?_)
            clear Z16 hc21
            refine lv_goto (tgt := 10) hx hb dX7_term_53 (by decide) ?_
            exact ih10_ σ20 hf22 _ _ _ Z25 (lv_sub hl1 [1, 2] rfl)
          · have hf26 := zYes hf13 b17
            clear hf13
            refine lv_iconst (v := 0) hx hb dX7_term_45 (by decide) ?_
            exact zy_zret X hr hlk Z16 (by decide) (zEnd hf26) dX7_term_46
        refine lv_aload_n hx hb dX7_term_10 rfl (lv_at hl10_ 0 rfl) ?_
        refine lv_bipush (v := 42) hx hb dX7_term_11 (by decide) ?_
        obtain ⟨r27, σ28, hc29, hf30⟩ := zBd hf10_
        clear hf10_
        refine zy_ci (r0 := r27) (WS1 := zg_W ML ad cA σ28) (TYS1 := zg_T ML cA) Z10_ (va_runV (As := [.int 42]) (rest := []) X (c_X7_isSign l D V ad cA 42 σ r27 σ28 hc29 H10_.size) (cwV 1 hts gX7_term_X7_isSign rfl rfl rfl ⟨rfl, zh_X7_isSign⟩ ⟨show 0 + 1 ≤ 3 + (d + 1) by omega, show 8 + (2 + 11) + 0 ≤ 68 + 22 * (d + 1) by omega⟩) (zy_pV (ci := 7) Z10_ mL_ok mk_0 rfl rfl) rfl rfl hl10_.1 rfl (lv_room (Nat.le_of_ble_eq_true rfl)) dX7_term_13 ⟨Nat.le_of_ble_eq_true rfl, Nat.le_of_ble_eq_true rfl⟩) (fun H31 lo32 Z33 => ?_)
        clear Z10_ hc29
        refine lv_if_ne (tgt := 28) hx hb dX7_term_16 (by decide) (fun b34 => ?_) (fun b34 => ?_)
        · have hf35 := zNot hf30 b34
          clear hf30
          exact b28_ σ28 hf35 _ _ _ Z33 (lv_sub hl10_ [0, 1] rfl)
        · have hf36 := zYes hf30 b34
          clear hf30
          refine lv_aload_n hx hb dX7_term_19 rfl (lv_at hl10_ 0 rfl) ?_
          refine lv_bipush (v := 47) hx hb dX7_term_20 (by decide) ?_
          obtain ⟨r37, σ38, hc39, hf40⟩ := zBd hf36
          clear hf36
          refine zy_ci (r0 := r37) (WS1 := zg_W ML ad cA σ38) (TYS1 := zg_T ML cA) Z33 (va_runV (As := [.int 47]) (rest := []) X (c_X7_isSign l D V ad cA 47 σ28 r37 σ38 hc39 H31.size) (cwV 1 hts gX7_term_X7_isSign rfl rfl rfl ⟨rfl, zh_X7_isSign⟩ ⟨show 0 + 1 ≤ 3 + (d + 1) by omega, show 8 + (2 + 11) + 0 ≤ 68 + 22 * (d + 1) by omega⟩) (zy_pV (ci := 7) Z33 mL_ok mk_0 rfl rfl) rfl rfl hl10_.1 rfl (lv_room (Nat.le_of_ble_eq_true rfl)) dX7_term_22 ⟨Nat.le_of_ble_eq_true rfl, Nat.le_of_ble_eq_true rfl⟩) (fun H41 lo42 Z43 => ?_)
          clear Z33 hc39
          refine lv_if_eq (tgt := 56) hx hb dX7_term_25 (by decide) (fun b44 => ?_) (fun b44 => ?_)
          · have hf45 := zYes hf40 b44
            clear hf40
            refine lv_iconst (v := 1) hx hb dX7_term_56 (by decide) ?_
            exact zy_zret X hr hlk Z43 (by decide) (zEnd hf45) dX7_term_57
          · have hf46 := zNot hf40 b44
            clear hf40
            exact b28_ σ38 hf46 _ _ _ Z43 (lv_sub hl10_ [0, 1] rfl)
  refine lv_aload_n hx hb dX7_term_0 rfl (lv_at hl 0 rfl) ?_
  refine lv_iload_n hx hb dX7_term_1 rfl (lv_at hl 1 rfl) ?_
  obtain ⟨r47, σ48, hc49, hf50⟩ := zBd hf
  clear hf
  refine zy_ci (r0 := r47) (WS1 := zg_W ML ad cA σ48) (TYS1 := zg_T ML cA) Z (va_runV (As := [.int a1]) (rest := []) X ((ih.2.2.2.2.2) a1 σ r47 σ48 hc49 s.heap.size) (cwV 1 hts gX7_term_X7_part0 rfl rfl rfl ⟨rfl, zh_X7_part0⟩ ⟨show 3 + d + 1 ≤ 3 + (d + 1) by omega, show 8 + (2 + 11) + (68 + 22 * d) ≤ 68 + 22 * (d + 1) by omega⟩) (zy_pV (ci := 7) Z mL_ok mk_0 rfl rfl) rfl rfl hl.1 rfl (lv_room (Nat.le_of_ble_eq_true rfl)) dX7_term_2 ⟨Nat.le_of_ble_eq_true rfl, Nat.le_of_ble_eq_true rfl⟩) (fun H51 lo52 Z53 => ?_)
  clear Z hc49
  refine lv_if_ne (tgt := 10) hx hb dX7_term_5 (by decide) (fun b54 => ?_) (fun b54 => ?_)
  · have hf55 := zNot hf50 b54
    clear hf50
    exact b10_ zfu σ48 hf55 _ _ _ Z53 (lv_sub hl [0, 1] rfl)
  · have hf56 := zYes hf50 b54
    clear hf50
    refine lv_iconst (v := 0) hx hb dX7_term_8 (by decide) ?_
    exact zy_zret X hr hlk Z53 (by decide) (zEnd hf56) dX7_term_9

set_option maxHeartbeats 4000000 in
set_option maxRecDepth 100000 in
theorem c_X7_part0_s (l : Launch) (D : va_G) (V : zz_V) (ad : Nat → Nat) (cA : Nat → ClassId) (d : Nat) (ih : zG_mp l D V ad cA d) (a1 : Int32) (σ : zg_S) (r0 : Int32) (σf : zg_S) (hf : f_X7_part0 (G_mp d) a1 σ = some (r0, σf)) : zM_I l yX7_part0 wsX7_part0 (3 + (d + 1)) (68 + 22 * (d + 1)) D V ML ad cA [.ref (ad 0), .int a1] σ r0 σf := by
  intro sz
  refine Met.ofW (cc := cX7_part0) (maxL := 2) (ret := (some .boolean)) (by decide) rfl ?_
  intro p e s m args below meth c s₁ B hml hv
  obtain ⟨rfl, hC⟩ := hv
  have hx := B.exec
  have hb := B.bytes
  have hr := B.returns
  have hts := atoms_spec (ws := wsX7_part0) B.pre
  have hown : s.vm.findClass RX7 = some m.cls := findClass_of_methodNamed B.named
  have hlk := B.notSynchronized
  have X : CallFix p m c cX7_part0 2 s _ wsX7_part0 RX7 := ⟨hx, hb, hml, hown, hts⟩
  have Z := zz_enter hC
  generalize va_A (zg_W ML ad cA σ) sz = A at Z ⊢
  have hl := lv_entry ([.ref (ad 0), .int a1]) (n := 2) (Nat.le_of_ble_eq_true rfl)
  rw [lg_entry_eq]
  generalize (lg_sl ([.ref (ad 0), .int a1]) ++ List.replicate (2 - (lg_sl ([.ref (ad 0), .int a1])).length) Slot.unset).toArray = ls at hl ⊢
  have hl : lv_has ls 2 [(0, .ref (ad 0)), (1, .int a1)] := hl
  unfold f_X7_part0 at hf
  have b84_ : ∀ (σ : zg_S), B_X7_part0_84 (G_mp d) a1  σ = some (r0, σf) → ∀ (H : Heap) (locs : List Loc) (ls : Array Slot), zz_S D V A s (zg_W ML ad cA σ) (zg_T ML cA) H locs → lv_has ls 2 [(0, .ref (ad 0)), (1, .int a1)] → W p l e (headSpec wsX7_part0 { frames := (3 + (d + 1)), cells := 0, slots := 0, locals := (68 + 22 * (d + 1)) }).room s m (List.toArray [.ref (ad 0), .int a1]) below meth c H locs 0 0 (MQ below (va_Qi (fun r (_ : Unit) => r = r0) (fun _ t => zz_B D A (zg_W ML ad cA σf) (zg_T ML cA) t) A) (List.toArray [.ref (ad 0), .int a1]) s 0 0 A) (F0 m 84 ls []) := by
    intro σ hf84_ H84_ locs84_ ls84_ Z84_ hl84_
    unfold B_X7_part0_84 at hf84_
    have b145_ : ∀ (σ : zg_S), B_X7_part0_145 (G_mp d) a1  σ = some (r0, σf) → ∀ (H : Heap) (locs : List Loc) (ls : Array Slot), zz_S D V A s (zg_W ML ad cA σ) (zg_T ML cA) H locs → lv_has ls 2 [(0, .ref (ad 0)), (1, .int a1)] → W p l e (headSpec wsX7_part0 { frames := (3 + (d + 1)), cells := 0, slots := 0, locals := (68 + 22 * (d + 1)) }).room s m (List.toArray [.ref (ad 0), .int a1]) below meth c H locs 0 0 (MQ below (va_Qi (fun r (_ : Unit) => r = r0) (fun _ t => zz_B D A (zg_W ML ad cA σf) (zg_T ML cA) t) A) (List.toArray [.ref (ad 0), .int a1]) s 0 0 A) (F0 m 145 ls []) := by
      intro σ hf145_ H145_ locs145_ ls145_ Z145_ hl145_
      unfold B_X7_part0_145 at hf145_
      refine lv_aload_n hx hb dX7_part0_145 rfl (lv_at hl145_ 0 rfl) ?_
      refine lv_bipush (v := 40) hx hb dX7_part0_146 (by decide) ?_
      obtain ⟨r1, σ2, hc3, hf4⟩ := zBd hf145_
      clear hf145_
      refine zy_ci (r0 := r1) (WS1 := zg_W ML ad cA σ2) (TYS1 := zg_T ML cA) Z145_ (va_runV (As := [.int 40]) (rest := []) X (c_X7_isSign l D V ad cA 40 σ r1 σ2 hc3 H145_.size) (cwV 1 hts gX7_part0_X7_isSign rfl rfl rfl ⟨rfl, zh_X7_isSign⟩ ⟨show 0 + 1 ≤ 3 + (d + 1) by omega, show 8 + (2 + 11) + 0 ≤ 68 + 22 * (d + 1) by omega⟩) (zy_pV (ci := 7) Z145_ mL_ok mk_0 rfl rfl) rfl rfl hl145_.1 rfl (lv_room (Nat.le_of_ble_eq_true rfl)) dX7_part0_148 ⟨Nat.le_of_ble_eq_true rfl, Nat.le_of_ble_eq_true rfl⟩) (fun H5 lo6 Z7 => ?_)
      clear Z145_ hc3
      refine lv_if_eq (tgt := 163) hx hb dX7_part0_151 (by decide) (fun b8 => ?_) (fun b8 => ?_)
      · have hf9 := zYes hf4 b8
        clear hf4
        refine lv_iconst (v := 0) hx hb dX7_part0_163 (by decide) ?_
        exact zy_zret X hr hlk Z7 (by decide) (zEnd hf9) dX7_part0_164
      · have hf10 := zNot hf4 b8
        clear hf4
        refine lv_aload_n hx hb dX7_part0_154 rfl (lv_at hl145_ 0 rfl) ?_
        refine zy_get (v := .int (σ2 0 20)) X Z7 mL_ok mk_0 rfl rfl (fun w h => List.mem_cons_of_mem _ (List.mem_append_right _ h)) 20 rfl (zz_m 6 rfl) rfl dX7_part0_155 ?_
        refine lv_bipush (v := 8) hx hb dX7_part0_158 (by decide) ?_
        refine lv_icmp_ne (tgt := 165) hx hb dX7_part0_160 (by decide) (fun b11 => ?_) (fun b11 => ?_)
        · have hf12 := zNot hf10 b11
          clear hf10
          refine lv_aload_n hx hb dX7_part0_165 rfl (lv_at hl145_ 0 rfl) ?_
          refine lv_dup hx hb dX7_part0_166 rfl ?_
          refine zy_get (v := .int (σ2 0 20)) X Z7 mL_ok mk_0 rfl rfl (fun w h => List.mem_cons_of_mem _ (List.mem_append_right _ h)) 20 rfl (zz_m 6 rfl) rfl dX7_part0_167 ?_
          refine lv_iconst (v := 1) hx hb dX7_part0_170 (by decide) ?_
          refine lv_iadd hx hb dX7_part0_171 ?_
          obtain ⟨σ13, es14, hf15⟩ := zLet hf12
          clear hf12
          refine zy_put (v := (σ2 0 20) + 1) (σ' := σ13) X Z7 mL_ok mk_0 rfl rfl (fun w h => List.mem_cons_of_mem _ (List.mem_append_right _ h)) tyX7 tyX7_ok nmX7 20 rfl (zz_m 6 rfl) rfl rfl rfl (fun _ => rfl) (fun _ => rfl) es14 dX7_part0_172 (fun H16 lo17 Z18 => ?_)
          clear Z7 es14
          refine lv_aload_n hx hb dX7_part0_175 rfl (lv_at hl145_ 0 rfl) ?_
          obtain ⟨r19, σ20, hc21, hf22⟩ := zBd hf15
          clear hf15
          refine zy_cv (WS1 := zg_W ML ad cA σ20) (TYS1 := zg_T ML cA) Z18 (va_runV (As := []) (rest := []) X (c_X7_nextToken l D V ad cA  σ13 r19 σ20 hc21 H16.size) (cwV 0 hts gX7_part0_X7_nextToken rfl rfl rfl ⟨rfl, zh_X7_nextToken⟩ ⟨show 2 + 1 ≤ 3 + (d + 1) by omega, show 8 + (3 + 11) + 46 ≤ 68 + 22 * (d + 1) by omega⟩) (zy_pV (ci := 7) Z18 mL_ok mk_0 rfl rfl) rfl rfl hl145_.1 rfl (lv_room (Nat.le_of_ble_eq_true rfl)) dX7_part0_176 ⟨Nat.le_of_ble_eq_true rfl, Nat.le_of_ble_eq_true rfl⟩) (fun H23 lo24 Z25 => ?_)
          clear Z18 hc21
          refine lv_aload_n hx hb dX7_part0_179 rfl (lv_at hl145_ 0 rfl) ?_
          refine lv_iload_n hx hb dX7_part0_180 rfl (lv_at hl145_ 1 rfl) ?_
          obtain ⟨r26, σ27, hc28, hf29⟩ := zBd hf22
          clear hf22
          refine zy_ci (r0 := r26) (WS1 := zg_W ML ad cA σ27) (TYS1 := zg_T ML cA) Z25 (va_runV (As := [.int a1]) (rest := []) X ((ih.1) a1 σ20 r26 σ27 hc28 H23.size) (cwV 1 hts gX7_part0_X7_either rfl rfl rfl ⟨rfl, zh_X7_either⟩ ⟨show 3 + d + 1 ≤ 3 + (d + 1) by omega, show 8 + (2 + 11) + (68 + 22 * d) ≤ 68 + 22 * (d + 1) by omega⟩) (zy_pV (ci := 7) Z25 mL_ok mk_0 rfl rfl) rfl rfl hl145_.1 rfl (lv_room (Nat.le_of_ble_eq_true rfl)) dX7_part0_181 ⟨Nat.le_of_ble_eq_true rfl, Nat.le_of_ble_eq_true rfl⟩) (fun H30 lo31 Z32 => ?_)
          clear Z25 hc28
          refine lv_if_eq (tgt := 196) hx hb dX7_part0_184 (by decide) (fun b33 => ?_) (fun b33 => ?_)
          · have hf34 := zYes hf29 b33
            clear hf29
            refine lv_iconst (v := 0) hx hb dX7_part0_196 (by decide) ?_
            exact zy_zret X hr hlk Z32 (by decide) (zEnd hf34) dX7_part0_197
          · have hf35 := zNot hf29 b33
            clear hf29
            refine lv_aload_n hx hb dX7_part0_187 rfl (lv_at hl145_ 0 rfl) ?_
            refine lv_bipush (v := 41) hx hb dX7_part0_188 (by decide) ?_
            obtain ⟨r36, σ37, hc38, hf39⟩ := zBd hf35
            clear hf35
            refine zy_ci (r0 := r36) (WS1 := zg_W ML ad cA σ37) (TYS1 := zg_T ML cA) Z32 (va_runV (As := [.int 41]) (rest := []) X (c_X7_isSign l D V ad cA 41 σ27 r36 σ37 hc38 H30.size) (cwV 1 hts gX7_part0_X7_isSign rfl rfl rfl ⟨rfl, zh_X7_isSign⟩ ⟨show 0 + 1 ≤ 3 + (d + 1) by omega, show 8 + (2 + 11) + 0 ≤ 68 + 22 * (d + 1) by omega⟩) (zy_pV (ci := 7) Z32 mL_ok mk_0 rfl rfl) rfl rfl hl145_.1 rfl (lv_room (Nat.le_of_ble_eq_true rfl)) dX7_part0_190 ⟨Nat.le_of_ble_eq_true rfl, Nat.le_of_ble_eq_true rfl⟩) (fun H40 lo41 Z42 => ?_)
            clear Z32 hc38
            refine lv_if_ne (tgt := 198) hx hb dX7_part0_193 (by decide) (fun b43 => ?_) (fun b43 => ?_)
            · have hf44 := zNot hf39 b43
              clear hf39
              refine lv_aload_n hx hb dX7_part0_198 rfl (lv_at hl145_ 0 rfl) ?_
              refine lv_dup hx hb dX7_part0_199 rfl ?_
              refine zy_get (v := .int (σ37 0 20)) X Z42 mL_ok mk_0 rfl rfl (fun w h => List.mem_cons_of_mem _ (List.mem_append_right _ h)) 20 rfl (zz_m 6 rfl) rfl dX7_part0_200 ?_
              refine lv_iconst (v := 1) hx hb dX7_part0_203 (by decide) ?_
              refine lv_isub hx hb dX7_part0_204 ?_
              obtain ⟨σ45, es46, hf47⟩ := zLet hf44
              clear hf44
              refine zy_put (v := (σ37 0 20) - 1) (σ' := σ45) X Z42 mL_ok mk_0 rfl rfl (fun w h => List.mem_cons_of_mem _ (List.mem_append_right _ h)) tyX7 tyX7_ok nmX7 20 rfl (zz_m 6 rfl) rfl rfl rfl (fun _ => rfl) (fun _ => rfl) es46 dX7_part0_205 (fun H48 lo49 Z50 => ?_)
              clear Z42 es46
              refine lv_aload_n hx hb dX7_part0_208 rfl (lv_at hl145_ 0 rfl) ?_
              obtain ⟨r51, σ52, hc53, hf54⟩ := zBd hf47
              clear hf47
              refine zy_cv (WS1 := zg_W ML ad cA σ52) (TYS1 := zg_T ML cA) Z50 (va_runV (As := []) (rest := []) X (c_X7_nextToken l D V ad cA  σ45 r51 σ52 hc53 H48.size) (cwV 0 hts gX7_part0_X7_nextToken rfl rfl rfl ⟨rfl, zh_X7_nextToken⟩ ⟨show 2 + 1 ≤ 3 + (d + 1) by omega, show 8 + (3 + 11) + 46 ≤ 68 + 22 * (d + 1) by omega⟩) (zy_pV (ci := 7) Z50 mL_ok mk_0 rfl rfl) rfl rfl hl145_.1 rfl (lv_room (Nat.le_of_ble_eq_true rfl)) dX7_part0_209 ⟨Nat.le_of_ble_eq_true rfl, Nat.le_of_ble_eq_true rfl⟩) (fun H55 lo56 Z57 => ?_)
              clear Z50 hc53
              refine lv_iconst (v := 1) hx hb dX7_part0_212 (by decide) ?_
              exact zy_zret X hr hlk Z57 (by decide) (zEnd hf54) dX7_part0_213
            · have hf58 := zYes hf39 b43
              clear hf39
              refine lv_iconst (v := 0) hx hb dX7_part0_196 (by decide) ?_
              exact zy_zret X hr hlk Z42 (by decide) (zEnd hf58) dX7_part0_197
        · have hf59 := zYes hf10 b11
          clear hf10
          refine lv_iconst (v := 0) hx hb dX7_part0_163 (by decide) ?_
          exact zy_zret X hr hlk Z7 (by decide) (zEnd hf59) dX7_part0_164
    refine lv_aload_n hx hb dX7_part0_84 rfl (lv_at hl84_ 0 rfl) ?_
    refine lv_bipush (v := 33) hx hb dX7_part0_85 (by decide) ?_
    obtain ⟨r60, σ61, hc62, hf63⟩ := zBd hf84_
    clear hf84_
    refine zy_ci (r0 := r60) (WS1 := zg_W ML ad cA σ61) (TYS1 := zg_T ML cA) Z84_ (va_runV (As := [.int 33]) (rest := []) X (c_X7_isSign l D V ad cA 33 σ r60 σ61 hc62 H84_.size) (cwV 1 hts gX7_part0_X7_isSign rfl rfl rfl ⟨rfl, zh_X7_isSign⟩ ⟨show 0 + 1 ≤ 3 + (d + 1) by omega, show 8 + (2 + 11) + 0 ≤ 68 + 22 * (d + 1) by omega⟩) (zy_pV (ci := 7) Z84_ mL_ok mk_0 rfl rfl) rfl rfl hl84_.1 rfl (lv_room (Nat.le_of_ble_eq_true rfl)) dX7_part0_87 ⟨Nat.le_of_ble_eq_true rfl, Nat.le_of_ble_eq_true rfl⟩) (fun H64 lo65 Z66 => ?_)
    clear Z84_ hc62
    refine lv_if_eq (tgt := 145) hx hb dX7_part0_90 (by decide) (fun b67 => ?_) (fun b67 => ?_)
    · have hf68 := zYes hf63 b67
      clear hf63
      exact b145_ σ61 hf68 _ _ _ Z66 (lv_sub hl84_ [0, 1] rfl)
    · have hf69 := zNot hf63 b67
      clear hf63
      refine lv_aload_n hx hb dX7_part0_93 rfl (lv_at hl84_ 0 rfl) ?_
      refine zy_get (v := .int (σ61 0 21)) X Z66 mL_ok mk_0 rfl rfl (fun w h => List.mem_cons_of_mem _ (List.mem_append_right _ h)) 21 rfl (zz_m 5 rfl) rfl dX7_part0_94 ?_
      refine lv_bipush (v := 8) hx hb dX7_part0_97 (by decide) ?_
      refine lv_icmp_ge (tgt := 145) hx hb dX7_part0_99 (by decide) (fun b70 => ?_) (fun b70 => ?_)
      · have hf71 := zYes hf69 b70
        clear hf69
        exact b145_ σ61 hf71 _ _ _ Z66 (lv_sub hl84_ [0, 1] rfl)
      · have hf72 := zNot hf69 b70
        clear hf69
        refine lv_aload_n hx hb dX7_part0_102 rfl (lv_at hl84_ 0 rfl) ?_
        refine lv_dup hx hb dX7_part0_103 rfl ?_
        refine zy_get (v := .int (σ61 0 21)) X Z66 mL_ok mk_0 rfl rfl (fun w h => List.mem_cons_of_mem _ (List.mem_append_right _ h)) 21 rfl (zz_m 5 rfl) rfl dX7_part0_104 ?_
        refine lv_iconst (v := 1) hx hb dX7_part0_107 (by decide) ?_
        refine lv_iadd hx hb dX7_part0_108 ?_
        obtain ⟨σ73, es74, hf75⟩ := zLet hf72
        clear hf72
        refine zy_put (v := (σ61 0 21) + 1) (σ' := σ73) X Z66 mL_ok mk_0 rfl rfl (fun w h => List.mem_cons_of_mem _ (List.mem_append_right _ h)) tyX7 tyX7_ok nmX7 21 rfl (zz_m 5 rfl) rfl rfl rfl (fun _ => rfl) (fun _ => rfl) es74 dX7_part0_109 (fun H76 lo77 Z78 => ?_)
        clear Z66 es74
        refine lv_aload_n hx hb dX7_part0_112 rfl (lv_at hl84_ 0 rfl) ?_
        obtain ⟨r79, σ80, hc81, hf82⟩ := zBd hf75
        clear hf75
        refine zy_cv (WS1 := zg_W ML ad cA σ80) (TYS1 := zg_T ML cA) Z78 (va_runV (As := []) (rest := []) X (c_X7_nextToken l D V ad cA  σ73 r79 σ80 hc81 H76.size) (cwV 0 hts gX7_part0_X7_nextToken rfl rfl rfl ⟨rfl, zh_X7_nextToken⟩ ⟨show 2 + 1 ≤ 3 + (d + 1) by omega, show 8 + (3 + 11) + 46 ≤ 68 + 22 * (d + 1) by omega⟩) (zy_pV (ci := 7) Z78 mL_ok mk_0 rfl rfl) rfl rfl hl84_.1 rfl (lv_room (Nat.le_of_ble_eq_true rfl)) dX7_part0_113 ⟨Nat.le_of_ble_eq_true rfl, Nat.le_of_ble_eq_true rfl⟩) (fun H83 lo84 Z85 => ?_)
        clear Z78 hc81
        refine lv_aload_n hx hb dX7_part0_116 rfl (lv_at hl84_ 0 rfl) ?_
        refine lv_iload_n hx hb dX7_part0_117 rfl (lv_at hl84_ 1 rfl) ?_
        obtain ⟨r86, σ87, hc88, hf89⟩ := zBd hf82
        clear hf82
        refine zy_ci (r0 := r86) (WS1 := zg_W ML ad cA σ87) (TYS1 := zg_T ML cA) Z85 (va_runV (As := [.int a1]) (rest := []) X ((ih.2.2.2.2.2) a1 σ80 r86 σ87 hc88 H83.size) (cwV 1 hts gX7_part0_X7_part0 rfl rfl rfl ⟨rfl, zh_X7_part0⟩ ⟨show 3 + d + 1 ≤ 3 + (d + 1) by omega, show 8 + (2 + 11) + (68 + 22 * d) ≤ 68 + 22 * (d + 1) by omega⟩) (zy_pV (ci := 7) Z85 mL_ok mk_0 rfl rfl) rfl rfl hl84_.1 rfl (lv_room (Nat.le_of_ble_eq_true rfl)) dX7_part0_118 ⟨Nat.le_of_ble_eq_true rfl, Nat.le_of_ble_eq_true rfl⟩) (fun H90 lo91 Z92 => ?_)
        clear Z85 hc88
        refine lv_if_ne (tgt := 126) hx hb dX7_part0_121 (by decide) (fun b93 => ?_) (fun b93 => ?_)
        · have hf94 := zNot hf89 b93
          clear hf89
          refine lv_aload_n hx hb dX7_part0_126 rfl (lv_at hl84_ 0 rfl) ?_
          refine lv_dup hx hb dX7_part0_127 rfl ?_
          refine zy_get (v := .int (σ87 0 21)) X Z92 mL_ok mk_0 rfl rfl (fun w h => List.mem_cons_of_mem _ (List.mem_append_right _ h)) 21 rfl (zz_m 5 rfl) rfl dX7_part0_128 ?_
          refine lv_iconst (v := 1) hx hb dX7_part0_131 (by decide) ?_
          refine lv_isub hx hb dX7_part0_132 ?_
          obtain ⟨σ95, es96, hf97⟩ := zLet hf94
          clear hf94
          refine zy_put (v := (σ87 0 21) - 1) (σ' := σ95) X Z92 mL_ok mk_0 rfl rfl (fun w h => List.mem_cons_of_mem _ (List.mem_append_right _ h)) tyX7 tyX7_ok nmX7 21 rfl (zz_m 5 rfl) rfl rfl rfl (fun _ => rfl) (fun _ => rfl) es96 dX7_part0_133 (fun H98 lo99 Z100 => ?_)
          clear Z92 es96
          refine lv_aload_n hx hb dX7_part0_136 rfl (lv_at hl84_ 0 rfl) ?_
          refine lv_iconst (v := 2) hx hb dX7_part0_137 (by decide) ?_
          refine lv_bipush (v := 33) hx hb dX7_part0_138 (by decide) ?_
          obtain ⟨r101, σ102, hc103, hf104⟩ := zBd hf97
          clear hf97
          refine zy_cv (WS1 := zg_W ML ad cA σ102) (TYS1 := zg_T ML cA) Z100 (va_runV (As := [.int 2, .int 33]) (rest := []) X (c_X7_step l D V ad cA 2 33 σ95 r101 σ102 hc103 H98.size) (cwV 2 hts gX7_part0_X7_step rfl rfl rfl ⟨rfl, zh_X7_step⟩ ⟨show 0 + 1 ≤ 3 + (d + 1) by omega, show 8 + (3 + 11) + 0 ≤ 68 + 22 * (d + 1) by omega⟩) (zy_pV (ci := 7) Z100 mL_ok mk_0 rfl rfl) rfl rfl hl84_.1 rfl (lv_room (Nat.le_of_ble_eq_true rfl)) dX7_part0_140 ⟨Nat.le_of_ble_eq_true rfl, Nat.le_of_ble_eq_true rfl⟩) (fun H105 lo106 Z107 => ?_)
          clear Z100 hc103
          refine lv_iconst (v := 1) hx hb dX7_part0_143 (by decide) ?_
          exact zy_zret X hr hlk Z107 (by decide) (zEnd hf104) dX7_part0_144
        · have hf108 := zYes hf89 b93
          clear hf89
          refine lv_iconst (v := 0) hx hb dX7_part0_124 (by decide) ?_
          exact zy_zret X hr hlk Z92 (by decide) (zEnd hf108) dX7_part0_125
  refine lv_aload_n hx hb dX7_part0_0 rfl (lv_at hl 0 rfl) ?_
  refine zy_get (v := .int (σ 0 17)) X Z mL_ok mk_0 rfl rfl (fun w h => List.mem_cons_of_mem _ (List.mem_append_right _ h)) 17 rfl (zz_m 1 rfl) rfl dX7_part0_1 ?_
  refine lv_iconst (v := 2) hx hb dX7_part0_4 (by decide) ?_
  refine lv_icmp_ne (tgt := 33) hx hb dX7_part0_5 (by decide) (fun b109 => ?_) (fun b109 => ?_)
  · have hf110 := zNot hf b109
    clear hf
    refine lv_aload_n hx hb dX7_part0_33 rfl (lv_at hl 0 rfl) ?_
    refine zy_get (v := .int (σ 0 17)) X Z mL_ok mk_0 rfl rfl (fun w h => List.mem_cons_of_mem _ (List.mem_append_right _ h)) 17 rfl (zz_m 1 rfl) rfl dX7_part0_34 ?_
    refine lv_iconst (v := 1) hx hb dX7_part0_37 (by decide) ?_
    refine lv_icmp_ne (tgt := 84) hx hb dX7_part0_38 (by decide) (fun b111 => ?_) (fun b111 => ?_)
    · have hf112 := zNot hf110 b111
      clear hf110
      exact b84_ σ hf112 _ _ _ Z (lv_sub hl [0, 1] rfl)
    · have hf113 := zYes hf110 b111
      clear hf110
      refine lv_aload_n hx hb dX7_part0_41 rfl (lv_at hl 0 rfl) ?_
      refine zy_get (v := .int (σ 0 19)) X Z mL_ok mk_0 rfl rfl (fun w h => List.mem_cons_of_mem _ (List.mem_append_right _ h)) 19 rfl (zz_m 4 rfl) rfl dX7_part0_42 ?_
      refine lv_if_eq (tgt := 84) hx hb dX7_part0_45 (by decide) (fun b114 => ?_) (fun b114 => ?_)
      · have hf115 := zYes hf113 b114
        clear hf113
        exact b84_ σ hf115 _ _ _ Z (lv_sub hl [0, 1] rfl)
      · have hf116 := zNot hf113 b114
        clear hf113
        refine lv_iload_n hx hb dX7_part0_48 rfl (lv_at hl 1 rfl) ?_
        refine lv_aload_n hx hb dX7_part0_49 rfl (lv_at hl 0 rfl) ?_
        refine zy_get (v := .int (σ 0 19)) X Z mL_ok mk_0 rfl rfl (fun w h => List.mem_cons_of_mem _ (List.mem_append_right _ h)) 19 rfl (zz_m 4 rfl) rfl dX7_part0_50 ?_
        obtain ⟨r117, σ118, hc119, hf120⟩ := zBd hf116
        clear hf116
        refine zy_ci (r0 := r117) (WS1 := zg_W ML ad cA σ118) (TYS1 := zg_T ML cA) Z (va_runS (As := [.int a1, .int (σ 0 19)]) (rest := []) X (c_X7_isName l D V ad cA a1 (σ 0 19) σ r117 σ118 hc119 s.heap.size) (va_cwS 2 hts gX7_part0_X7_isName rfl rfl rfl zh_X7_isName ⟨show 0 + 1 ≤ 3 + (d + 1) by omega, show 8 + (2 + 11) + 0 ≤ 68 + 22 * (d + 1) by omega⟩) (zz_pS Z) rfl rfl hl.1 rfl (lv_room (Nat.le_of_ble_eq_true rfl)) dX7_part0_53 ⟨Nat.le_of_ble_eq_true rfl, Nat.le_of_ble_eq_true rfl⟩) (fun H121 lo122 Z123 => ?_)
        clear Z hc119
        refine lv_if_eq (tgt := 84) hx hb dX7_part0_56 (by decide) (fun b124 => ?_) (fun b124 => ?_)
        · have hf125 := zYes hf120 b124
          clear hf120
          exact b84_ σ118 hf125 _ _ _ Z123 (lv_sub hl [0, 1] rfl)
        · have hf126 := zNot hf120 b124
          clear hf120
          refine lv_aload_n hx hb dX7_part0_59 rfl (lv_at hl 0 rfl) ?_
          refine lv_iconst (v := 1) hx hb dX7_part0_60 (by decide) ?_
          refine lv_aload_n hx hb dX7_part0_61 rfl (lv_at hl 0 rfl) ?_
          refine zy_get (v := .int (σ118 0 19)) X Z123 mL_ok mk_0 rfl rfl (fun w h => List.mem_cons_of_mem _ (List.mem_append_right _ h)) 19 rfl (zz_m 4 rfl) rfl dX7_part0_62 ?_
          obtain ⟨r127, σ128, hc129, hf130⟩ := zBd hf126
          clear hf126
          refine zy_cv (WS1 := zg_W ML ad cA σ128) (TYS1 := zg_T ML cA) Z123 (va_runV (As := [.int 1, .int (σ118 0 19)]) (rest := []) X (c_X7_step l D V ad cA 1 (σ118 0 19) σ118 r127 σ128 hc129 H121.size) (cwV 2 hts gX7_part0_X7_step rfl rfl rfl ⟨rfl, zh_X7_step⟩ ⟨show 0 + 1 ≤ 3 + (d + 1) by omega, show 8 + (3 + 11) + 0 ≤ 68 + 22 * (d + 1) by omega⟩) (zy_pV (ci := 7) Z123 mL_ok mk_0 rfl rfl) rfl rfl hl.1 rfl (lv_room (Nat.le_of_ble_eq_true rfl)) dX7_part0_65 ⟨Nat.le_of_ble_eq_true rfl, Nat.le_of_ble_eq_true rfl⟩) (fun H131 lo132 Z133 => ?_)
          clear Z123 hc129
          refine lv_aload_n hx hb dX7_part0_68 rfl (lv_at hl 0 rfl) ?_
          refine lv_dup hx hb dX7_part0_69 rfl ?_
          refine zy_get (v := .int (σ128 0 24)) X Z133 mL_ok mk_0 rfl rfl (fun w h => List.mem_cons_of_mem _ (List.mem_append_right _ h)) 24 rfl (zz_m 3 rfl) rfl dX7_part0_70 ?_
          refine lv_iconst (v := 1) hx hb dX7_part0_73 (by decide) ?_
          refine lv_iadd hx hb dX7_part0_74 ?_
          obtain ⟨σ134, es135, hf136⟩ := zLet hf130
          clear hf130
          refine zy_put (v := (σ128 0 24) + 1) (σ' := σ134) X Z133 mL_ok mk_0 rfl rfl (fun w h => List.mem_cons_of_mem _ (List.mem_append_right _ h)) tyX7 tyX7_ok nmX7 24 rfl (zz_m 3 rfl) rfl rfl rfl (fun _ => rfl) (fun _ => rfl) es135 dX7_part0_75 (fun H137 lo138 Z139 => ?_)
          clear Z133 es135
          refine lv_aload_n hx hb dX7_part0_78 rfl (lv_at hl 0 rfl) ?_
          obtain ⟨r140, σ141, hc142, hf143⟩ := zBd hf136
          clear hf136
          refine zy_cv (WS1 := zg_W ML ad cA σ141) (TYS1 := zg_T ML cA) Z139 (va_runV (As := []) (rest := []) X (c_X7_nextToken l D V ad cA  σ134 r140 σ141 hc142 H137.size) (cwV 0 hts gX7_part0_X7_nextToken rfl rfl rfl ⟨rfl, zh_X7_nextToken⟩ ⟨show 2 + 1 ≤ 3 + (d + 1) by omega, show 8 + (3 + 11) + 46 ≤ 68 + 22 * (d + 1) by omega⟩) (zy_pV (ci := 7) Z139 mL_ok mk_0 rfl rfl) rfl rfl hl.1 rfl (lv_room (Nat.le_of_ble_eq_true rfl)) dX7_part0_79 ⟨Nat.le_of_ble_eq_true rfl, Nat.le_of_ble_eq_true rfl⟩) (fun H144 lo145 Z146 => ?_)
          clear Z139 hc142
          refine lv_iconst (v := 1) hx hb dX7_part0_82 (by decide) ?_
          exact zy_zret X hr hlk Z146 (by decide) (zEnd hf143) dX7_part0_83
  · have hf147 := zYes hf b109
    clear hf
    refine lv_aload_n hx hb dX7_part0_8 rfl (lv_at hl 0 rfl) ?_
    refine lv_iconst (v := 0) hx hb dX7_part0_9 (by decide) ?_
    refine lv_aload_n hx hb dX7_part0_10 rfl (lv_at hl 0 rfl) ?_
    refine zy_get (v := .int (σ 0 18)) X Z mL_ok mk_0 rfl rfl (fun w h => List.mem_cons_of_mem _ (List.mem_append_right _ h)) 18 rfl (zz_m 2 rfl) rfl dX7_part0_11 ?_
    obtain ⟨r148, σ149, hc150, hf151⟩ := zBd hf147
    clear hf147
    refine zy_cv (WS1 := zg_W ML ad cA σ149) (TYS1 := zg_T ML cA) Z (va_runV (As := [.int 0, .int (σ 0 18)]) (rest := []) X (c_X7_step l D V ad cA 0 (σ 0 18) σ r148 σ149 hc150 s.heap.size) (cwV 2 hts gX7_part0_X7_step rfl rfl rfl ⟨rfl, zh_X7_step⟩ ⟨show 0 + 1 ≤ 3 + (d + 1) by omega, show 8 + (3 + 11) + 0 ≤ 68 + 22 * (d + 1) by omega⟩) (zy_pV (ci := 7) Z mL_ok mk_0 rfl rfl) rfl rfl hl.1 rfl (lv_room (Nat.le_of_ble_eq_true rfl)) dX7_part0_14 ⟨Nat.le_of_ble_eq_true rfl, Nat.le_of_ble_eq_true rfl⟩) (fun H152 lo153 Z154 => ?_)
    clear Z hc150
    refine lv_aload_n hx hb dX7_part0_17 rfl (lv_at hl 0 rfl) ?_
    refine lv_dup hx hb dX7_part0_18 rfl ?_
    refine zy_get (v := .int (σ149 0 24)) X Z154 mL_ok mk_0 rfl rfl (fun w h => List.mem_cons_of_mem _ (List.mem_append_right _ h)) 24 rfl (zz_m 3 rfl) rfl dX7_part0_19 ?_
    refine lv_iconst (v := 1) hx hb dX7_part0_22 (by decide) ?_
    refine lv_iadd hx hb dX7_part0_23 ?_
    obtain ⟨σ155, es156, hf157⟩ := zLet hf151
    clear hf151
    refine zy_put (v := (σ149 0 24) + 1) (σ' := σ155) X Z154 mL_ok mk_0 rfl rfl (fun w h => List.mem_cons_of_mem _ (List.mem_append_right _ h)) tyX7 tyX7_ok nmX7 24 rfl (zz_m 3 rfl) rfl rfl rfl (fun _ => rfl) (fun _ => rfl) es156 dX7_part0_24 (fun H158 lo159 Z160 => ?_)
    clear Z154 es156
    refine lv_aload_n hx hb dX7_part0_27 rfl (lv_at hl 0 rfl) ?_
    obtain ⟨r161, σ162, hc163, hf164⟩ := zBd hf157
    clear hf157
    refine zy_cv (WS1 := zg_W ML ad cA σ162) (TYS1 := zg_T ML cA) Z160 (va_runV (As := []) (rest := []) X (c_X7_nextToken l D V ad cA  σ155 r161 σ162 hc163 H158.size) (cwV 0 hts gX7_part0_X7_nextToken rfl rfl rfl ⟨rfl, zh_X7_nextToken⟩ ⟨show 2 + 1 ≤ 3 + (d + 1) by omega, show 8 + (3 + 11) + 46 ≤ 68 + 22 * (d + 1) by omega⟩) (zy_pV (ci := 7) Z160 mL_ok mk_0 rfl rfl) rfl rfl hl.1 rfl (lv_room (Nat.le_of_ble_eq_true rfl)) dX7_part0_28 ⟨Nat.le_of_ble_eq_true rfl, Nat.le_of_ble_eq_true rfl⟩) (fun H165 lo166 Z167 => ?_)
    clear Z160 hc163
    refine lv_iconst (v := 1) hx hb dX7_part0_31 (by decide) ?_
    exact zy_zret X hr hlk Z167 (by decide) (zEnd hf164) dX7_part0_32

theorem c_G_mp (l : Launch) (D : va_G) (V : zz_V) (ad : Nat → Nat) (cA : Nat → ClassId) : ∀ d : Nat, zG_mp l D V ad cA d := by
  intro d
  induction d with
  | zero => exact ⟨fun _ _ _ _ h => zNone h, fun _ _ _ _ h => zNone h, fun _ _ _ _ h => zNone h, fun _ _ _ _ h => zNone h, fun _ _ _ _ h => zNone h, fun _ _ _ _ h => zNone h⟩
  | succ d ih => exact ⟨fun z0 σ r0 σf h => c_X7_either_s l D V ad cA d ih z0 σ r0 σf h, fun z0 σ r0 σf h => c_X7_both_s l D V ad cA d ih z0 σ r0 σf h, fun z0 σ r0 σf h => c_X7_test_s l D V ad cA d ih z0 σ r0 σf h, fun z0 σ r0 σf h => c_X7_sum_s l D V ad cA d ih z0 σ r0 σf h, fun z0 σ r0 σf h => c_X7_term_s l D V ad cA d ih z0 σ r0 σf h, fun z0 σ r0 σf h => c_X7_part0_s l D V ad cA d ih z0 σ r0 σf h⟩
