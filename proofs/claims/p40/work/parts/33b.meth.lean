def B_X7_mark_96 (a1 : Int32) (a2 : Int32) (a3 : Int32) (σ : zg_S) : Option (Int32 × zg_S) := (if zin a1 4 = true then (if (σ 4 (Int32.toNatClampNeg a1)) = 0 then zlet ((a3 <<< (16 &&& 31)) >>> (16 &&& 31)) (fun (y16 : Int32) => (if zin ((24 * a1) + a2) 96 = true then zlet (zg_up σ 6 (Int32.toNatClampNeg ((24 * a1) + a2)) y16) (fun (σ22 : zg_S) => some (1, σ22)) else none)) else (if zin ((24 * a1) + a2) 96 = true then zlet (zg_up σ 6 (Int32.toNatClampNeg ((24 * a1) + a2)) a3) (fun (σ9 : zg_S) => some (1, σ9)) else none)) else none)
def B_X7_mark_63 (a1 : Int32) (a2 : Int32) (a3 : Int32) (σ : zg_S) : Option (Int32 × zg_S) := (if zin a1 4 = true then (if (σ 4 (Int32.toNatClampNeg a1)) = 1 then (if a3 = (-1000000005) then B_X7_mark_96 a1 a2 a3 σ else zbd (f_X7_isIn (Int32.toInt64 a3) (Int32.toInt64 (-99999)) (Int32.toInt64 99999) σ) (fun (r37 : Int32) (σ38 : zg_S) => (if r37 = 0 then some ((-1000000001), σ38) else B_X7_mark_96 a1 a2 a3 σ38))) else B_X7_mark_96 a1 a2 a3 σ) else none)
def f_X7_mark (a1 : Int32) (a2 : Int32) (a3 : Int32) (σ : zg_S) : Option (Int32 × zg_S) := zbd (f_X7_isSheet a1 σ) (fun (r47 : Int32) (σ48 : zg_S) => (if r47 = 0 then some ((-1000000001), σ48) else (if zin a1 4 = true then (if 0 ≤ (σ48 4 (Int32.toNatClampNeg a1)) then zbd (f_X7_isIn (Int32.toInt64 a2) (Int32.toInt64 0) (Int32.toInt64 ((σ48 5 (Int32.toNatClampNeg a1)) - 1)) σ48) (fun (r61 : Int32) (σ62 : zg_S) => (if r61 = 0 then some ((-1000000013), σ62) else (if (σ62 4 (Int32.toNatClampNeg a1)) = 0 then (if a3 = (-1000000005) then some ((-1000000012), σ62) else B_X7_mark_63 a1 a2 a3 σ62) else B_X7_mark_63 a1 a2 a3 σ62))) else some ((-1000000011), σ48)) else none)))
set_option maxHeartbeats 4000000 in
set_option maxRecDepth 100000 in
theorem c_X7_mark (l : Launch) (D : va_G) (V : zz_V) (ad : Nat → Nat) (cA : Nat → ClassId) (a1 : Int32) (a2 : Int32) (a3 : Int32)  (σ : zg_S) (r0 : Int32) (σf : zg_S) (hf : f_X7_mark a1 a2 a3 σ = some (r0, σf)) : zM_I l yX7_mark wsX7_mark 2 45 D V ML ad cA [.ref (ad 0), .int a1, .int a2, .int a3] σ r0 σf := by
  intro sz
  refine Met.ofW (cc := cX7_mark) (maxL := 4) (ret := (some .int)) (by decide) rfl ?_
  intro p e s m args below meth c s₁ B hml hv
  obtain ⟨rfl, hC⟩ := hv
  have hx := B.exec
  have hb := B.bytes
  have hr := B.returns
  have hts := atoms_spec (ws := wsX7_mark) B.pre
  have hown : s.vm.findClass RX7 = some m.cls := findClass_of_methodNamed B.named
  have hlk := B.notSynchronized
  have X : CallFix p m c cX7_mark 4 s _ wsX7_mark RX7 := ⟨hx, hb, hml, hown, hts⟩
  have Z := zz_enter hC
  generalize va_A (zg_W ML ad cA σ) sz = A at Z ⊢
  have hl := lv_entry ([.ref (ad 0), .int a1, .int a2, .int a3]) (n := 4) (Nat.le_of_ble_eq_true rfl)
  rw [lg_entry_eq]
  generalize (lg_sl ([.ref (ad 0), .int a1, .int a2, .int a3]) ++ List.replicate (4 - (lg_sl ([.ref (ad 0), .int a1, .int a2, .int a3])).length) Slot.unset).toArray = ls at hl ⊢
  have hl : lv_has ls 4 [(0, .ref (ad 0)), (1, .int a1), (2, .int a2), (3, .int a3)] := hl
  unfold f_X7_mark at hf
  have b63_ : ∀ (σ : zg_S), B_X7_mark_63 a1 a2 a3  σ = some (r0, σf) → ∀ (H : Heap) (locs : List Loc) (ls : Array Slot), zz_S D V A s (zg_W ML ad cA σ) (zg_T ML cA) H locs → lv_has ls 4 [(0, .ref (ad 0)), (1, .int a1), (2, .int a2), (3, .int a3)] → W p l e (headSpec wsX7_mark { frames := 2, cells := 0, slots := 0, locals := 45 }).room s m (List.toArray [.ref (ad 0), .int a1, .int a2, .int a3]) below meth c H locs 0 0 (MQ below (va_Qi (fun r (_ : Unit) => r = r0) (fun _ t => zz_B D A (zg_W ML ad cA σf) (zg_T ML cA) t) A) (List.toArray [.ref (ad 0), .int a1, .int a2, .int a3]) s 0 0 A) (F0 m 63 ls []) := by
    intro σ hf63_ H63_ locs63_ ls63_ Z63_ hl63_
    unfold B_X7_mark_63 at hf63_
    have b96_ : ∀ (σ : zg_S), B_X7_mark_96 a1 a2 a3  σ = some (r0, σf) → ∀ (H : Heap) (locs : List Loc) (ls : Array Slot), zz_S D V A s (zg_W ML ad cA σ) (zg_T ML cA) H locs → lv_has ls 4 [(0, .ref (ad 0)), (1, .int a1), (2, .int a2), (3, .int a3)] → W p l e (headSpec wsX7_mark { frames := 2, cells := 0, slots := 0, locals := 45 }).room s m (List.toArray [.ref (ad 0), .int a1, .int a2, .int a3]) below meth c H locs 0 0 (MQ below (va_Qi (fun r (_ : Unit) => r = r0) (fun _ t => zz_B D A (zg_W ML ad cA σf) (zg_T ML cA) t) A) (List.toArray [.ref (ad 0), .int a1, .int a2, .int a3]) s 0 0 A) (F0 m 96 ls []) := by
      intro σ hf96_ H96_ locs96_ ls96_ Z96_ hl96_
      unfold B_X7_mark_96 at hf96_
      refine lv_aload_n hx hb dX7_mark_96 rfl (lv_at hl96_ 0 rfl) ?_
      refine zy_get (v := .ref (ad 6)) X Z96_ mL_ok mk_0 rfl rfl (fun w h => List.mem_cons_of_mem _ (List.mem_append_right _ h)) 6 rfl (zz_m 10 rfl) rfl dX7_mark_97 ?_
      refine lv_bipush (v := 24) hx hb dX7_mark_100 (by decide) ?_
      refine lv_iload_n hx hb dX7_mark_102 rfl (lv_at hl96_ 1 rfl) ?_
      refine lv_imul hx hb dX7_mark_103 ?_
      refine lv_iload_n hx hb dX7_mark_104 rfl (lv_at hl96_ 2 rfl) ?_
      refine lv_iadd hx hb dX7_mark_105 ?_
      refine lv_aload_n hx hb dX7_mark_106 rfl (lv_at hl96_ 0 rfl) ?_
      refine zy_get (v := .ref (ad 4)) X Z96_ mL_ok mk_0 rfl rfl (fun w h => List.mem_cons_of_mem _ (List.mem_append_right _ h)) 4 rfl (zz_m 2 rfl) rfl dX7_mark_107 ?_
      refine lv_iload_n hx hb dX7_mark_110 rfl (lv_at hl96_ 1 rfl) ?_
      obtain ⟨⟨i1, j2⟩, hf3⟩ := zG hf96_
      clear hf96_
      refine zy_ild X Z96_ mL_ok mk_4 ml_4 i1 dX7_mark_111 ?_
      refine lv_if_ne (tgt := 125) hx hb dX7_mark_112 (by decide) (fun b4 => ?_) (fun b4 => ?_)
      · have hf5 := zNot hf3 b4
        clear hf3
        refine lv_iload_n hx hb dX7_mark_125 rfl (lv_at hl96_ 3 rfl) ?_
        obtain ⟨⟨i6, j7⟩, hf8⟩ := zG hf5
        clear hf5
        obtain ⟨σ9, es10, hf11⟩ := zLet hf8
        clear hf8
        refine zy_ist (σ' := σ9) X Z96_ mL_ok mk_6 ml_6 i6 es10 dX7_mark_126 (fun H12 lo13 Z14 => ?_)
        clear Z96_ es10
        refine lv_iconst (v := 1) hx hb dX7_mark_127 (by decide) ?_
        exact zy_iret X hr hlk Z14 (zEnd hf11) dX7_mark_128
      · have hf15 := zYes hf3 b4
        clear hf3
        refine lv_iload_n hx hb dX7_mark_115 rfl (lv_at hl96_ 3 rfl) ?_
        refine lv_bipush (v := 16) hx hb dX7_mark_116 (by decide) ?_
        refine lv_ishl hx hb dX7_mark_118 ?_
        refine lv_bipush (v := 16) hx hb dX7_mark_119 (by decide) ?_
        refine lv_ishr hx hb dX7_mark_121 ?_
        refine lv_goto (tgt := 126) hx hb dX7_mark_122 (by decide) ?_
        obtain ⟨y16, ey17, hf18⟩ := zLet hf15
        clear hf15
        refine zz_v (v := y16) ey17.symm ?_
        clear ey17
        obtain ⟨⟨i19, j20⟩, hf21⟩ := zG hf18
        clear hf18
        obtain ⟨σ22, es23, hf24⟩ := zLet hf21
        clear hf21
        refine zy_ist (σ' := σ22) X Z96_ mL_ok mk_6 ml_6 i19 es23 dX7_mark_126 (fun H25 lo26 Z27 => ?_)
        clear Z96_ es23
        refine lv_iconst (v := 1) hx hb dX7_mark_127 (by decide) ?_
        exact zy_iret X hr hlk Z27 (zEnd hf24) dX7_mark_128
    refine lv_aload_n hx hb dX7_mark_63 rfl (lv_at hl63_ 0 rfl) ?_
    refine zy_get (v := .ref (ad 4)) X Z63_ mL_ok mk_0 rfl rfl (fun w h => List.mem_cons_of_mem _ (List.mem_append_right _ h)) 4 rfl (zz_m 2 rfl) rfl dX7_mark_64 ?_
    refine lv_iload_n hx hb dX7_mark_67 rfl (lv_at hl63_ 1 rfl) ?_
    obtain ⟨⟨i28, j29⟩, hf30⟩ := zG hf63_
    clear hf63_
    refine zy_ild X Z63_ mL_ok mk_4 ml_4 i28 dX7_mark_68 ?_
    refine lv_iconst (v := 1) hx hb dX7_mark_69 (by decide) ?_
    refine lv_icmp_ne (tgt := 96) hx hb dX7_mark_70 (by decide) (fun b31 => ?_) (fun b31 => ?_)
    · have hf32 := zNot hf30 b31
      clear hf30
      exact b96_ σ hf32 _ _ _ Z63_ (lv_sub hl63_ [0, 1, 2, 3] rfl)
    · have hf33 := zYes hf30 b31
      clear hf30
      refine lv_iload_n hx hb dX7_mark_73 rfl (lv_at hl63_ 3 rfl) ?_
      refine lv_ldc (v := (-1000000005)) hx hb hown (hts _ (zz_m 6 rfl)) dX7_mark_74 ?_
      refine lv_icmp_eq (tgt := 96) hx hb dX7_mark_76 (by decide) (fun b34 => ?_) (fun b34 => ?_)
      · have hf35 := zYes hf33 b34
        clear hf33
        exact b96_ σ hf35 _ _ _ Z63_ (lv_sub hl63_ [0, 1, 2, 3] rfl)
      · have hf36 := zNot hf33 b34
        clear hf33
        refine lv_iload_n hx hb dX7_mark_79 rfl (lv_at hl63_ 3 rfl) ?_
        refine lv_i2l (v := Int32.toInt64 a3) hx hb dX7_mark_80 rfl ?_
        refine lv_ldc2 (v := (-99999)) hx hb hown (hts _ (zz_m 8 rfl)) dX7_mark_81 ?_
        refine zz_vl (v := Int32.toInt64 (-99999)) (by decide) ?_
        refine lv_ldc2 (v := 99999) hx hb hown (hts _ (zz_m 9 rfl)) dX7_mark_84 ?_
        refine zz_vl (v := Int32.toInt64 99999) (by decide) ?_
        obtain ⟨r37, σ38, hc39, hf40⟩ := zBd hf36
        clear hf36
        refine zy_ci (r0 := r37) (WS1 := zg_W ML ad cA σ38) (TYS1 := zg_T ML cA) Z63_ (va_runS (As := [.long (Int32.toInt64 a3), .long (Int32.toInt64 (-99999)), .long (Int32.toInt64 99999)]) (rest := []) X (c_X7_isIn l D V ad cA (Int32.toInt64 a3) (Int32.toInt64 (-99999)) (Int32.toInt64 99999) σ r37 σ38 hc39 H63_.size) (va_cwS 3 hts gX7_mark_X7_isIn rfl rfl rfl zh_X7_isIn ⟨Nat.le_of_ble_eq_true rfl, Nat.le_of_ble_eq_true rfl⟩) (zz_pS Z63_) rfl rfl hl63_.1 rfl (lv_room (Nat.le_of_ble_eq_true rfl)) dX7_mark_87 ⟨Nat.le_of_ble_eq_true rfl, Nat.le_of_ble_eq_true rfl⟩) (fun H41 lo42 Z43 => ?_)
        clear Z63_ hc39
        refine lv_if_ne (tgt := 96) hx hb dX7_mark_90 (by decide) (fun b44 => ?_) (fun b44 => ?_)
        · have hf45 := zNot hf40 b44
          clear hf40
          exact b96_ σ38 hf45 _ _ _ Z43 (lv_sub hl63_ [0, 1, 2, 3] rfl)
        · have hf46 := zYes hf40 b44
          clear hf40
          refine lv_ldc (v := (-1000000001)) hx hb hown (hts _ (zz_m 1 rfl)) dX7_mark_93 ?_
          exact zy_iret X hr hlk Z43 (zEnd hf46) dX7_mark_95
  refine lv_iload_n hx hb dX7_mark_0 rfl (lv_at hl 1 rfl) ?_
  obtain ⟨r47, σ48, hc49, hf50⟩ := zBd hf
  clear hf
  refine zy_ci (r0 := r47) (WS1 := zg_W ML ad cA σ48) (TYS1 := zg_T ML cA) Z (va_runS (As := [.int a1]) (rest := []) X (c_X7_isSheet l D V ad cA a1 σ r47 σ48 hc49 s.heap.size) (va_cwS 1 hts gX7_mark_X7_isSheet rfl rfl rfl zh_X7_isSheet ⟨Nat.le_of_ble_eq_true rfl, Nat.le_of_ble_eq_true rfl⟩) (zz_pS Z) rfl rfl hl.1 rfl (lv_room (Nat.le_of_ble_eq_true rfl)) dX7_mark_1 ⟨Nat.le_of_ble_eq_true rfl, Nat.le_of_ble_eq_true rfl⟩) (fun H51 lo52 Z53 => ?_)
  clear Z hc49
  refine lv_if_ne (tgt := 10) hx hb dX7_mark_4 (by decide) (fun b54 => ?_) (fun b54 => ?_)
  · have hf55 := zNot hf50 b54
    clear hf50
    refine lv_aload_n hx hb dX7_mark_10 rfl (lv_at hl 0 rfl) ?_
    refine zy_get (v := .ref (ad 4)) X Z53 mL_ok mk_0 rfl rfl (fun w h => List.mem_cons_of_mem _ (List.mem_append_right _ h)) 4 rfl (zz_m 2 rfl) rfl dX7_mark_11 ?_
    refine lv_iload_n hx hb dX7_mark_14 rfl (lv_at hl 1 rfl) ?_
    obtain ⟨⟨i56, j57⟩, hf58⟩ := zG hf55
    clear hf55
    refine zy_ild X Z53 mL_ok mk_4 ml_4 i56 dX7_mark_15 ?_
    refine lv_if_ge (tgt := 23) hx hb dX7_mark_16 (by decide) (fun b59 => ?_) (fun b59 => ?_)
    · have hf60 := zYes hf58 b59
      clear hf58
      refine lv_iload_n hx hb dX7_mark_23 rfl (lv_at hl 2 rfl) ?_
      refine lv_i2l (v := Int32.toInt64 a2) hx hb dX7_mark_24 rfl ?_
      refine lv_lconst (v := 0) hx hb dX7_mark_25 (by decide) ?_
      refine zz_vl (v := Int32.toInt64 0) (by decide) ?_
      refine lv_aload_n hx hb dX7_mark_26 rfl (lv_at hl 0 rfl) ?_
      refine zy_get (v := .ref (ad 5)) X Z53 mL_ok mk_0 rfl rfl (fun w h => List.mem_cons_of_mem _ (List.mem_append_right _ h)) 5 rfl (zz_m 4 rfl) rfl dX7_mark_27 ?_
      refine lv_iload_n hx hb dX7_mark_30 rfl (lv_at hl 1 rfl) ?_
      refine zy_ild X Z53 mL_ok mk_5 ml_5 i56 dX7_mark_31 ?_
      refine lv_iconst (v := 1) hx hb dX7_mark_32 (by decide) ?_
      refine lv_isub hx hb dX7_mark_33 ?_
      refine lv_i2l (v := Int32.toInt64 ((σ48 5 (Int32.toNatClampNeg a1)) - 1)) hx hb dX7_mark_34 rfl ?_
      obtain ⟨r61, σ62, hc63, hf64⟩ := zBd hf60
      clear hf60
      refine zy_ci (r0 := r61) (WS1 := zg_W ML ad cA σ62) (TYS1 := zg_T ML cA) Z53 (va_runS (As := [.long (Int32.toInt64 a2), .long (Int32.toInt64 0), .long (Int32.toInt64 ((σ48 5 (Int32.toNatClampNeg a1)) - 1))]) (rest := []) X (c_X7_isIn l D V ad cA (Int32.toInt64 a2) (Int32.toInt64 0) (Int32.toInt64 ((σ48 5 (Int32.toNatClampNeg a1)) - 1)) σ48 r61 σ62 hc63 H51.size) (va_cwS 3 hts gX7_mark_X7_isIn rfl rfl rfl zh_X7_isIn ⟨Nat.le_of_ble_eq_true rfl, Nat.le_of_ble_eq_true rfl⟩) (zz_pS Z53) rfl rfl hl.1 rfl (lv_room (Nat.le_of_ble_eq_true rfl)) dX7_mark_35 ⟨Nat.le_of_ble_eq_true rfl, Nat.le_of_ble_eq_true rfl⟩) (fun H65 lo66 Z67 => ?_)
      clear Z53 hc63
      refine lv_if_ne (tgt := 45) hx hb dX7_mark_38 (by decide) (fun b68 => ?_) (fun b68 => ?_)
      · have hf69 := zNot hf64 b68
        clear hf64
        refine lv_aload_n hx hb dX7_mark_45 rfl (lv_at hl 0 rfl) ?_
        refine zy_get (v := .ref (ad 4)) X Z67 mL_ok mk_0 rfl rfl (fun w h => List.mem_cons_of_mem _ (List.mem_append_right _ h)) 4 rfl (zz_m 2 rfl) rfl dX7_mark_46 ?_
        refine lv_iload_n hx hb dX7_mark_49 rfl (lv_at hl 1 rfl) ?_
        refine zy_ild X Z67 mL_ok mk_4 ml_4 i56 dX7_mark_50 ?_
        refine lv_if_ne (tgt := 63) hx hb dX7_mark_51 (by decide) (fun b70 => ?_) (fun b70 => ?_)
        · have hf71 := zNot hf69 b70
          clear hf69
          exact b63_ σ62 hf71 _ _ _ Z67 (lv_sub hl [0, 1, 2, 3] rfl)
        · have hf72 := zYes hf69 b70
          clear hf69
          refine lv_iload_n hx hb dX7_mark_54 rfl (lv_at hl 3 rfl) ?_
          refine lv_ldc (v := (-1000000005)) hx hb hown (hts _ (zz_m 6 rfl)) dX7_mark_55 ?_
          refine lv_icmp_ne (tgt := 63) hx hb dX7_mark_57 (by decide) (fun b73 => ?_) (fun b73 => ?_)
          · have hf74 := zNot hf72 b73
            clear hf72
            exact b63_ σ62 hf74 _ _ _ Z67 (lv_sub hl [0, 1, 2, 3] rfl)
          · have hf75 := zYes hf72 b73
            clear hf72
            refine lv_ldc (v := (-1000000012)) hx hb hown (hts _ (zz_m 7 rfl)) dX7_mark_60 ?_
            exact zy_iret X hr hlk Z67 (zEnd hf75) dX7_mark_62
      · have hf76 := zYes hf64 b68
        clear hf64
        refine lv_ldcw (v := (-1000000013)) hx hb hown (hts _ (zz_m 5 rfl)) dX7_mark_41 ?_
        exact zy_iret X hr hlk Z67 (zEnd hf76) dX7_mark_44
    · have hf77 := zNot hf58 b59
      clear hf58
      refine lv_ldcw (v := (-1000000011)) hx hb hown (hts _ (zz_m 3 rfl)) dX7_mark_19 ?_
      exact zy_iret X hr hlk Z53 (zEnd hf77) dX7_mark_22
  · have hf78 := zYes hf50 b54
    clear hf50
    refine lv_ldc (v := (-1000000001)) hx hb hown (hts _ (zz_m 1 rfl)) dX7_mark_7 ?_
    exact zy_iret X hr hlk Z53 (zEnd hf78) dX7_mark_9
def f_X7_mostOf (a1 : Int32) (σ : zg_S) : Option (Int32 × zg_S) := (if a1 = 0 then some (12 - (σ 1 8), σ) else (if a1 = 1 then some (6, σ) else (if a1 = 2 then some (100, σ) else some (2, σ))))
set_option maxHeartbeats 4000000 in
set_option maxRecDepth 100000 in
theorem c_X7_mostOf (l : Launch) (D : va_G) (V : zz_V) (ad : Nat → Nat) (cA : Nat → ClassId) (a1 : Int32)  (σ : zg_S) (r0 : Int32) (σf : zg_S) (hf : f_X7_mostOf a1 σ = some (r0, σf)) : zM_I l yX7_mostOf wsX7_mostOf 0 0 D V ML ad cA [.ref (ad 0), .int a1] σ r0 σf := by
  intro sz
  refine Met.ofW (cc := cX7_mostOf) (maxL := 2) (ret := (some .int)) (by decide) rfl ?_
  intro p e s m args below meth c s₁ B hml hv
  obtain ⟨rfl, hC⟩ := hv
  have hx := B.exec
  have hb := B.bytes
  have hr := B.returns
  have hts := atoms_spec (ws := wsX7_mostOf) B.pre
  have hown : s.vm.findClass RX7 = some m.cls := findClass_of_methodNamed B.named
  have hlk := B.notSynchronized
  have X : CallFix p m c cX7_mostOf 2 s _ wsX7_mostOf RX7 := ⟨hx, hb, hml, hown, hts⟩
  have Z := zz_enter hC
  generalize va_A (zg_W ML ad cA σ) sz = A at Z ⊢
  have hl := lv_entry ([.ref (ad 0), .int a1]) (n := 2) (Nat.le_of_ble_eq_true rfl)
  rw [lg_entry_eq]
  generalize (lg_sl ([.ref (ad 0), .int a1]) ++ List.replicate (2 - (lg_sl ([.ref (ad 0), .int a1])).length) Slot.unset).toArray = ls at hl ⊢
  have hl : lv_has ls 2 [(0, .ref (ad 0)), (1, .int a1)] := hl
  unfold f_X7_mostOf at hf
  refine lv_iload_n hx hb dX7_mostOf_0 rfl (lv_at hl 1 rfl) ?_
  refine lv_if_ne (tgt := 17) hx hb dX7_mostOf_1 (by decide) (fun b1 => ?_) (fun b1 => ?_)
  · have hf2 := zNot hf b1
    clear hf
    refine lv_iload_n hx hb dX7_mostOf_17 rfl (lv_at hl 1 rfl) ?_
    refine lv_iconst (v := 1) hx hb dX7_mostOf_18 (by decide) ?_
    refine lv_icmp_ne (tgt := 27) hx hb dX7_mostOf_19 (by decide) (fun b3 => ?_) (fun b3 => ?_)
    · have hf4 := zNot hf2 b3
      clear hf2
      refine lv_iload_n hx hb dX7_mostOf_27 rfl (lv_at hl 1 rfl) ?_
      refine lv_iconst (v := 2) hx hb dX7_mostOf_28 (by decide) ?_
      refine lv_icmp_ne (tgt := 37) hx hb dX7_mostOf_29 (by decide) (fun b5 => ?_) (fun b5 => ?_)
      · have hf6 := zNot hf4 b5
        clear hf4
        refine lv_iconst (v := 2) hx hb dX7_mostOf_37 (by decide) ?_
        exact zy_iret X hr hlk Z (zEnd hf6) dX7_mostOf_38
      · have hf7 := zYes hf4 b5
        clear hf4
        refine lv_bipush (v := 100) hx hb dX7_mostOf_32 (by decide) ?_
        refine lv_goto (tgt := 38) hx hb dX7_mostOf_34 (by decide) ?_
        exact zy_iret X hr hlk Z (zEnd hf7) dX7_mostOf_38
    · have hf8 := zYes hf2 b3
      clear hf2
      refine lv_bipush (v := 6) hx hb dX7_mostOf_22 (by decide) ?_
      refine lv_goto (tgt := 38) hx hb dX7_mostOf_24 (by decide) ?_
      exact zy_iret X hr hlk Z (zEnd hf8) dX7_mostOf_38
  · have hf9 := zYes hf b1
    clear hf
    refine lv_bipush (v := 12) hx hb dX7_mostOf_4 (by decide) ?_
    refine lv_aload_n hx hb dX7_mostOf_6 rfl (lv_at hl 0 rfl) ?_
    refine zy_get (v := .ref (ad 1)) X Z mL_ok mk_0 rfl rfl (fun w h => List.mem_cons_of_mem _ (List.mem_append_right _ h)) 0 rfl (zz_m 1 rfl) rfl dX7_mostOf_7 ?_
    refine lv_bipush (v := 8) hx hb dX7_mostOf_10 (by decide) ?_
    refine zy_ild X Z mL_ok mk_1 ml_1 (zz_in 8 3047 rfl) dX7_mostOf_12 ?_
    refine zz_v (v := σ 1 8) rfl ?_
    refine lv_isub hx hb dX7_mostOf_13 ?_
    refine lv_goto (tgt := 38) hx hb dX7_mostOf_14 (by decide) ?_
    exact zy_iret X hr hlk Z (zEnd hf9) dX7_mostOf_38
def B_X7_parse_111 (x1 : Int32) (x2 : Int32) (σ : zg_S) : Option (Int32 × zg_S) := zlet (zg_up σ 0 14 0) (fun (σ1 : zg_S) => (if x2 = 0 then some ((-1), σ1) else some (x1, σ1)))
def B_X7_parse_110 (x1 : Int32) (y0 : Int32) (σ : zg_S) : Option (Int32 × zg_S) := B_X7_parse_111 x1 y0 σ
def B_X7_parse_109 (x1 : Int32) (σ : zg_S) : Option (Int32 × zg_S) := B_X7_parse_110 x1 0 σ
def B_X7_parse_81 (x1 : Int32) (y0 : Int32) (σ : zg_S) : Option (Int32 × zg_S) := (if y0 = 0 then B_X7_parse_111 x1 y0 σ else zbd (f_X7_nextToken σ) (fun (r17 : Int32) (σ18 : zg_S) => zbd (G_mp 128 0 x1 σ18) (fun (r24 : Int32) (σ25 : zg_S) => (if r24 = 0 then B_X7_parse_109 x1 σ25 else (if (σ25 0 17) = 0 then B_X7_parse_110 x1 1 σ25 else B_X7_parse_109 x1 σ25)))))
def B_X7_parse_60 (y0 : Int32) (σ : zg_S) : Option (Int32 × zg_S) := zlet (zg_up σ 0 23 y0) (fun (σ37 : zg_S) => zbd (f_X7_nextToken σ37) (fun (r43 : Int32) (σ44 : zg_S) => zbd (f_X7_key σ44) (fun (r50 : Int32) (σ51 : zg_S) => (if r50 < 0 then B_X7_parse_81 r50 0 σ51 else B_X7_parse_81 r50 1 σ51))))
def f_X7_parse  (σ : zg_S) : Option (Int32 × zg_S) := zlet (zg_up σ 0 16 0) (fun (σ62 : zg_S) => zlet (zg_up σ62 0 17 3) (fun (σ68 : zg_S) => zlet (zg_up σ68 0 20 0) (fun (σ74 : zg_S) => zlet (zg_up σ74 0 21 0) (fun (σ80 : zg_S) => zlet (zg_up σ80 0 22 0) (fun (σ86 : zg_S) => zlet (zg_up σ86 0 24 0) (fun (σ92 : zg_S) => (if 14 ≤ (σ92 1 1) then B_X7_parse_60 2847 σ92 else zbd (f_X7_textAt (σ92 1 1) σ92) (fun (r101 : Int32) (σ102 : zg_S) => B_X7_parse_60 (r101 + 4) σ102))))))))
set_option maxHeartbeats 4000000 in
set_option maxRecDepth 100000 in
theorem c_X7_parse (l : Launch) (D : va_G) (V : zz_V) (ad : Nat → Nat) (cA : Nat → ClassId)   (σ : zg_S) (r0 : Int32) (σf : zg_S) (hf : f_X7_parse  σ = some (r0, σf)) : zM_I l yX7_parse wsX7_parse 132 2905 D V ML ad cA [.ref (ad 0)] σ r0 σf := by
  intro sz
  refine Met.ofW (cc := cX7_parse) (maxL := 3) (ret := (some .int)) (by decide) rfl ?_
  intro p e s m args below meth c s₁ B hml hv
  obtain ⟨rfl, hC⟩ := hv
  have hx := B.exec
  have hb := B.bytes
  have hr := B.returns
  have hts := atoms_spec (ws := wsX7_parse) B.pre
  have hown : s.vm.findClass RX7 = some m.cls := findClass_of_methodNamed B.named
  have hlk := B.notSynchronized
  have X : CallFix p m c cX7_parse 3 s _ wsX7_parse RX7 := ⟨hx, hb, hml, hown, hts⟩
  have Z := zz_enter hC
  generalize va_A (zg_W ML ad cA σ) sz = A at Z ⊢
  have hl := lv_entry ([.ref (ad 0)]) (n := 3) (Nat.le_of_ble_eq_true rfl)
  rw [lg_entry_eq]
  generalize (lg_sl ([.ref (ad 0)]) ++ List.replicate (3 - (lg_sl ([.ref (ad 0)])).length) Slot.unset).toArray = ls at hl ⊢
  have hl : lv_has ls 3 [(0, .ref (ad 0))] := hl
  unfold f_X7_parse at hf
  have b60_ : ∀ (y0 : Int32) (σ : zg_S), B_X7_parse_60 y0 σ = some (r0, σf) → ∀ (H : Heap) (locs : List Loc) (ls : Array Slot), zz_S D V A s (zg_W ML ad cA σ) (zg_T ML cA) H locs → lv_has ls 3 [(0, .ref (ad 0))] → W p l e (headSpec wsX7_parse { frames := 132, cells := 0, slots := 0, locals := 2905 }).room s m (List.toArray [.ref (ad 0)]) below meth c H locs 0 0 (MQ below (va_Qi (fun r (_ : Unit) => r = r0) (fun _ t => zz_B D A (zg_W ML ad cA σf) (zg_T ML cA) t) A) (List.toArray [.ref (ad 0)]) s 0 0 A) (F0 m 60 ls [.int y0, .ref (ad 0)]) := by
    intro y0 σ hf60_ H60_ locs60_ ls60_ Z60_ hl60_
    unfold B_X7_parse_60 at hf60_
    have b81_ : ∀ (x1 : Int32) (y0 : Int32) (σ : zg_S), B_X7_parse_81 x1 y0 σ = some (r0, σf) → ∀ (H : Heap) (locs : List Loc) (ls : Array Slot), zz_S D V A s (zg_W ML ad cA σ) (zg_T ML cA) H locs → lv_has ls 3 [(0, .ref (ad 0)), (1, .int x1)] → W p l e (headSpec wsX7_parse { frames := 132, cells := 0, slots := 0, locals := 2905 }).room s m (List.toArray [.ref (ad 0)]) below meth c H locs 0 0 (MQ below (va_Qi (fun r (_ : Unit) => r = r0) (fun _ t => zz_B D A (zg_W ML ad cA σf) (zg_T ML cA) t) A) (List.toArray [.ref (ad 0)]) s 0 0 A) (F0 m 81 ls [.int y0]) := by
      intro x1 y0 σ hf81_ H81_ locs81_ ls81_ Z81_ hl81_
      unfold B_X7_parse_81 at hf81_
      have b111_ : ∀ (x1 : Int32) (x2 : Int32) (σ : zg_S), B_X7_parse_111 x1 x2 σ = some (r0, σf) → ∀ (H : Heap) (locs : List Loc) (ls : Array Slot), zz_S D V A s (zg_W ML ad cA σ) (zg_T ML cA) H locs → lv_has ls 3 [(0, .ref (ad 0)), (1, .int x1), (2, .int x2)] → W p l e (headSpec wsX7_parse { frames := 132, cells := 0, slots := 0, locals := 2905 }).room s m (List.toArray [.ref (ad 0)]) below meth c H locs 0 0 (MQ below (va_Qi (fun r (_ : Unit) => r = r0) (fun _ t => zz_B D A (zg_W ML ad cA σf) (zg_T ML cA) t) A) (List.toArray [.ref (ad 0)]) s 0 0 A) (F0 m 111 ls []) := by
        intro x1 x2 σ hf111_ H111_ locs111_ ls111_ Z111_ hl111_
        unfold B_X7_parse_111 at hf111_
        refine lv_aload_n hx hb dX7_parse_111 rfl (lv_at hl111_ 0 rfl) ?_
        refine lv_iconst (v := 0) hx hb dX7_parse_112 (by decide) ?_
        obtain ⟨σ1, es2, hf3⟩ := zLet hf111_
        clear hf111_
        refine zy_put (v := 0) (σ' := σ1) X Z111_ mL_ok mk_0 rfl rfl (fun w h => List.mem_cons_of_mem _ (List.mem_append_right _ h)) tyX7 tyX7_ok nmX7 14 rfl (zz_m 9 rfl) rfl rfl rfl (fun _ => rfl) (fun _ => rfl) es2 dX7_parse_113 (fun H4 lo5 Z6 => ?_)
        clear Z111_ es2
        refine lv_iload_n hx hb dX7_parse_116 rfl (lv_at hl111_ 2 rfl) ?_
        refine lv_if_eq (tgt := 124) hx hb dX7_parse_117 (by decide) (fun b7 => ?_) (fun b7 => ?_)
        · have hf8 := zYes hf3 b7
          clear hf3
          refine lv_iconst (v := (-1)) hx hb dX7_parse_124 (by decide) ?_
          exact zy_iret X hr hlk Z6 (zEnd hf8) dX7_parse_125
        · have hf9 := zNot hf3 b7
          clear hf3
          refine lv_iload_n hx hb dX7_parse_120 rfl (lv_at hl111_ 1 rfl) ?_
          refine lv_goto (tgt := 125) hx hb dX7_parse_121 (by decide) ?_
          exact zy_iret X hr hlk Z6 (zEnd hf9) dX7_parse_125
      have b110_ : ∀ (x1 : Int32) (y0 : Int32) (σ : zg_S), B_X7_parse_110 x1 y0 σ = some (r0, σf) → ∀ (H : Heap) (locs : List Loc) (ls : Array Slot), zz_S D V A s (zg_W ML ad cA σ) (zg_T ML cA) H locs → lv_has ls 3 [(0, .ref (ad 0)), (1, .int x1)] → W p l e (headSpec wsX7_parse { frames := 132, cells := 0, slots := 0, locals := 2905 }).room s m (List.toArray [.ref (ad 0)]) below meth c H locs 0 0 (MQ below (va_Qi (fun r (_ : Unit) => r = r0) (fun _ t => zz_B D A (zg_W ML ad cA σf) (zg_T ML cA) t) A) (List.toArray [.ref (ad 0)]) s 0 0 A) (F0 m 110 ls [.int y0]) := by
        intro x1 y0 σ hf110_ H110_ locs110_ ls110_ Z110_ hl110_
        unfold B_X7_parse_110 at hf110_
        refine lv_istore_n (lv' := [(2, .int y0), (0, .ref (ad 0)), (1, .int x1)]) hx hb dX7_parse_110 rfl hl110_ (by decide) rfl (fun ls11 hl10 => ?_)
        clear hl110_
        exact b111_ x1 y0 σ hf110_ _ _ _ Z110_ (lv_sub hl10 [1, 2, 0] rfl)
      have b109_ : ∀ (x1 : Int32) (σ : zg_S), B_X7_parse_109 x1 σ = some (r0, σf) → ∀ (H : Heap) (locs : List Loc) (ls : Array Slot), zz_S D V A s (zg_W ML ad cA σ) (zg_T ML cA) H locs → lv_has ls 3 [(0, .ref (ad 0)), (1, .int x1)] → W p l e (headSpec wsX7_parse { frames := 132, cells := 0, slots := 0, locals := 2905 }).room s m (List.toArray [.ref (ad 0)]) below meth c H locs 0 0 (MQ below (va_Qi (fun r (_ : Unit) => r = r0) (fun _ t => zz_B D A (zg_W ML ad cA σf) (zg_T ML cA) t) A) (List.toArray [.ref (ad 0)]) s 0 0 A) (F0 m 109 ls []) := by
        intro x1 σ hf109_ H109_ locs109_ ls109_ Z109_ hl109_
        unfold B_X7_parse_109 at hf109_
        refine lv_iconst (v := 0) hx hb dX7_parse_109 (by decide) ?_
        exact b110_ x1 0 σ hf109_ _ _ _ Z109_ (lv_sub hl109_ [0, 1] rfl)
      refine lv_istore_n (lv' := [(2, .int y0), (0, .ref (ad 0)), (1, .int x1)]) hx hb dX7_parse_81 rfl hl81_ (by decide) rfl (fun ls13 hl12 => ?_)
      clear hl81_
      refine lv_iload_n hx hb dX7_parse_82 rfl (lv_at hl12 0 rfl) ?_
      refine lv_if_eq (tgt := 111) hx hb dX7_parse_83 (by decide) (fun b14 => ?_) (fun b14 => ?_)
      · have hf15 := zYes hf81_ b14
        clear hf81_
        exact b111_ x1 y0 σ hf15 _ _ _ Z81_ (lv_sub hl12 [1, 2, 0] rfl)
      · have hf16 := zNot hf81_ b14
        clear hf81_
        refine lv_aload_n hx hb dX7_parse_86 rfl (lv_at hl12 1 rfl) ?_
        obtain ⟨r17, σ18, hc19, hf20⟩ := zBd hf16
        clear hf16
        refine zy_cv (WS1 := zg_W ML ad cA σ18) (TYS1 := zg_T ML cA) Z81_ (va_runV (As := []) (rest := []) X (c_X7_nextToken l D V ad cA  σ r17 σ18 hc19 H81_.size) (cwV 0 hts gX7_parse_X7_nextToken rfl rfl rfl ⟨rfl, zh_X7_nextToken⟩ ⟨Nat.le_of_ble_eq_true rfl, Nat.le_of_ble_eq_true rfl⟩) (zy_pV (ci := 7) Z81_ mL_ok mk_0 rfl rfl) rfl rfl hl12.1 rfl (lv_room (Nat.le_of_ble_eq_true rfl)) dX7_parse_87 ⟨Nat.le_of_ble_eq_true rfl, Nat.le_of_ble_eq_true rfl⟩) (fun H21 lo22 Z23 => ?_)
        clear Z81_ hc19
        refine lv_aload_n hx hb dX7_parse_90 rfl (lv_at hl12 1 rfl) ?_
        refine lv_iload_n hx hb dX7_parse_91 rfl (lv_at hl12 2 rfl) ?_
        obtain ⟨r24, σ25, hc26, hf27⟩ := zBd hf20
        clear hf20
        refine zy_ci (r0 := r24) (WS1 := zg_W ML ad cA σ25) (TYS1 := zg_T ML cA) Z23 (va_runV (As := [.int x1]) (rest := []) X (((c_G_mp l D V ad cA 128).1) x1 σ18 r24 σ25 hc26 H21.size) (cwV 1 hts gX7_parse_X7_either rfl rfl rfl ⟨rfl, zh_X7_either⟩ ⟨Nat.le_of_ble_eq_true rfl, Nat.le_of_ble_eq_true rfl⟩) (zy_pV (ci := 7) Z23 mL_ok mk_0 rfl rfl) rfl rfl hl12.1 rfl (lv_room (Nat.le_of_ble_eq_true rfl)) dX7_parse_92 ⟨Nat.le_of_ble_eq_true rfl, Nat.le_of_ble_eq_true rfl⟩) (fun H28 lo29 Z30 => ?_)
        clear Z23 hc26
        refine lv_if_eq (tgt := 109) hx hb dX7_parse_95 (by decide) (fun b31 => ?_) (fun b31 => ?_)
        · have hf32 := zYes hf27 b31
          clear hf27
          exact b109_ x1 σ25 hf32 _ _ _ Z30 (lv_sub hl12 [1, 2] rfl)
        · have hf33 := zNot hf27 b31
          clear hf27
          refine lv_aload_n hx hb dX7_parse_98 rfl (lv_at hl12 1 rfl) ?_
          refine zy_get (v := .int (σ25 0 17)) X Z30 mL_ok mk_0 rfl rfl (fun w h => List.mem_cons_of_mem _ (List.mem_append_right _ h)) 17 rfl (zz_m 2 rfl) rfl dX7_parse_99 ?_
          refine lv_if_ne (tgt := 109) hx hb dX7_parse_102 (by decide) (fun b34 => ?_) (fun b34 => ?_)
          · have hf35 := zNot hf33 b34
            clear hf33
            exact b109_ x1 σ25 hf35 _ _ _ Z30 (lv_sub hl12 [1, 2] rfl)
          · have hf36 := zYes hf33 b34
            clear hf33
            refine lv_iconst (v := 1) hx hb dX7_parse_105 (by decide) ?_
            refine lv_goto (tgt := 110) hx hb dX7_parse_106 (by decide) ?_
            exact b110_ x1 1 σ25 hf36 _ _ _ Z30 (lv_sub hl12 [1, 2] rfl)
    obtain ⟨σ37, es38, hf39⟩ := zLet hf60_
    clear hf60_
    refine zy_put (v := y0) (σ' := σ37) X Z60_ mL_ok mk_0 rfl rfl (fun w h => List.mem_cons_of_mem _ (List.mem_append_right _ h)) tyX7 tyX7_ok nmX7 23 rfl (zz_m 8 rfl) rfl rfl rfl (fun _ => rfl) (fun _ => rfl) es38 dX7_parse_60 (fun H40 lo41 Z42 => ?_)
    clear Z60_ es38
    refine lv_aload_n hx hb dX7_parse_63 rfl (lv_at hl60_ 0 rfl) ?_
    obtain ⟨r43, σ44, hc45, hf46⟩ := zBd hf39
    clear hf39
    refine zy_cv (WS1 := zg_W ML ad cA σ44) (TYS1 := zg_T ML cA) Z42 (va_runV (As := []) (rest := []) X (c_X7_nextToken l D V ad cA  σ37 r43 σ44 hc45 H40.size) (cwV 0 hts gX7_parse_X7_nextToken rfl rfl rfl ⟨rfl, zh_X7_nextToken⟩ ⟨Nat.le_of_ble_eq_true rfl, Nat.le_of_ble_eq_true rfl⟩) (zy_pV (ci := 7) Z42 mL_ok mk_0 rfl rfl) rfl rfl hl60_.1 rfl (lv_room (Nat.le_of_ble_eq_true rfl)) dX7_parse_64 ⟨Nat.le_of_ble_eq_true rfl, Nat.le_of_ble_eq_true rfl⟩) (fun H47 lo48 Z49 => ?_)
    clear Z42 hc45
    refine lv_aload_n hx hb dX7_parse_67 rfl (lv_at hl60_ 0 rfl) ?_
    obtain ⟨r50, σ51, hc52, hf53⟩ := zBd hf46
    clear hf46
    refine zy_ci (r0 := r50) (WS1 := zg_W ML ad cA σ51) (TYS1 := zg_T ML cA) Z49 (va_runV (As := []) (rest := []) X (c_X7_key l D V ad cA  σ44 r50 σ51 hc52 H47.size) (cwV 0 hts gX7_parse_X7_key rfl rfl rfl ⟨rfl, zh_X7_key⟩ ⟨Nat.le_of_ble_eq_true rfl, Nat.le_of_ble_eq_true rfl⟩) (zy_pV (ci := 7) Z49 mL_ok mk_0 rfl rfl) rfl rfl hl60_.1 rfl (lv_room (Nat.le_of_ble_eq_true rfl)) dX7_parse_68 ⟨Nat.le_of_ble_eq_true rfl, Nat.le_of_ble_eq_true rfl⟩) (fun H54 lo55 Z56 => ?_)
    clear Z49 hc52
    refine lv_istore_n (lv' := [(1, .int r50), (0, .ref (ad 0))]) hx hb dX7_parse_71 rfl hl60_ (by decide) rfl (fun ls58 hl57 => ?_)
    clear hl60_
    refine lv_iload_n hx hb dX7_parse_72 rfl (lv_at hl57 0 rfl) ?_
    refine lv_if_lt (tgt := 80) hx hb dX7_parse_73 (by decide) (fun b59 => ?_) (fun b59 => ?_)
    · have hf60 := zYes hf53 b59
      clear hf53
      refine lv_iconst (v := 0) hx hb dX7_parse_80 (by decide) ?_
      exact b81_ r50 0 σ51 hf60 _ _ _ Z56 (lv_sub hl57 [1, 0] rfl)
    · have hf61 := zNot hf53 b59
      clear hf53
      refine lv_iconst (v := 1) hx hb dX7_parse_76 (by decide) ?_
      refine lv_goto (tgt := 81) hx hb dX7_parse_77 (by decide) ?_
      exact b81_ r50 1 σ51 hf61 _ _ _ Z56 (lv_sub hl57 [1, 0] rfl)
  refine lv_aload_n hx hb dX7_parse_0 rfl (lv_at hl 0 rfl) ?_
  refine lv_iconst (v := 0) hx hb dX7_parse_1 (by decide) ?_
  obtain ⟨σ62, es63, hf64⟩ := zLet hf
  clear hf
  refine zy_put (v := 0) (σ' := σ62) X Z mL_ok mk_0 rfl rfl (fun w h => List.mem_cons_of_mem _ (List.mem_append_right _ h)) tyX7 tyX7_ok nmX7 16 rfl (zz_m 1 rfl) rfl rfl rfl (fun _ => rfl) (fun _ => rfl) es63 dX7_parse_2 (fun H65 lo66 Z67 => ?_)
  clear Z es63
  refine lv_aload_n hx hb dX7_parse_5 rfl (lv_at hl 0 rfl) ?_
  refine lv_iconst (v := 3) hx hb dX7_parse_6 (by decide) ?_
  obtain ⟨σ68, es69, hf70⟩ := zLet hf64
  clear hf64
  refine zy_put (v := 3) (σ' := σ68) X Z67 mL_ok mk_0 rfl rfl (fun w h => List.mem_cons_of_mem _ (List.mem_append_right _ h)) tyX7 tyX7_ok nmX7 17 rfl (zz_m 2 rfl) rfl rfl rfl (fun _ => rfl) (fun _ => rfl) es69 dX7_parse_7 (fun H71 lo72 Z73 => ?_)
  clear Z67 es69
  refine lv_aload_n hx hb dX7_parse_10 rfl (lv_at hl 0 rfl) ?_
  refine lv_iconst (v := 0) hx hb dX7_parse_11 (by decide) ?_
  obtain ⟨σ74, es75, hf76⟩ := zLet hf70
  clear hf70
  refine zy_put (v := 0) (σ' := σ74) X Z73 mL_ok mk_0 rfl rfl (fun w h => List.mem_cons_of_mem _ (List.mem_append_right _ h)) tyX7 tyX7_ok nmX7 20 rfl (zz_m 3 rfl) rfl rfl rfl (fun _ => rfl) (fun _ => rfl) es75 dX7_parse_12 (fun H77 lo78 Z79 => ?_)
  clear Z73 es75
  refine lv_aload_n hx hb dX7_parse_15 rfl (lv_at hl 0 rfl) ?_
  refine lv_iconst (v := 0) hx hb dX7_parse_16 (by decide) ?_
  obtain ⟨σ80, es81, hf82⟩ := zLet hf76
  clear hf76
  refine zy_put (v := 0) (σ' := σ80) X Z79 mL_ok mk_0 rfl rfl (fun w h => List.mem_cons_of_mem _ (List.mem_append_right _ h)) tyX7 tyX7_ok nmX7 21 rfl (zz_m 4 rfl) rfl rfl rfl (fun _ => rfl) (fun _ => rfl) es81 dX7_parse_17 (fun H83 lo84 Z85 => ?_)
  clear Z79 es81
  refine lv_aload_n hx hb dX7_parse_20 rfl (lv_at hl 0 rfl) ?_
  refine lv_iconst (v := 0) hx hb dX7_parse_21 (by decide) ?_
  obtain ⟨σ86, es87, hf88⟩ := zLet hf82
  clear hf82
  refine zy_put (v := 0) (σ' := σ86) X Z85 mL_ok mk_0 rfl rfl (fun w h => List.mem_cons_of_mem _ (List.mem_append_right _ h)) tyX7 tyX7_ok nmX7 22 rfl (zz_m 5 rfl) rfl rfl rfl (fun _ => rfl) (fun _ => rfl) es87 dX7_parse_22 (fun H89 lo90 Z91 => ?_)
  clear Z85 es87
  refine lv_aload_n hx hb dX7_parse_25 rfl (lv_at hl 0 rfl) ?_
  refine lv_iconst (v := 0) hx hb dX7_parse_26 (by decide) ?_
  obtain ⟨σ92, es93, hf94⟩ := zLet hf88
  clear hf88
  refine zy_put (v := 0) (σ' := σ92) X Z91 mL_ok mk_0 rfl rfl (fun w h => List.mem_cons_of_mem _ (List.mem_append_right _ h)) tyX7 tyX7_ok nmX7 24 rfl (zz_m 6 rfl) rfl rfl rfl (fun _ => rfl) (fun _ => rfl) es93 dX7_parse_27 (fun H95 lo96 Z97 => ?_)
  clear Z91 es93
  refine lv_aload_n hx hb dX7_parse_30 rfl (lv_at hl 0 rfl) ?_
  refine lv_aload_n hx hb dX7_parse_31 rfl (lv_at hl 0 rfl) ?_
  refine zy_get (v := .ref (ad 1)) X Z97 mL_ok mk_0 rfl rfl (fun w h => List.mem_cons_of_mem _ (List.mem_append_right _ h)) 0 rfl (zz_m 7 rfl) rfl dX7_parse_32 ?_
  refine lv_iconst (v := 1) hx hb dX7_parse_35 (by decide) ?_
  refine zy_ild X Z97 mL_ok mk_1 ml_1 (zz_in 1 3047 rfl) dX7_parse_36 ?_
  refine zz_v (v := σ92 1 1) rfl ?_
  refine lv_bipush (v := 14) hx hb dX7_parse_37 (by decide) ?_
  refine lv_icmp_ge (tgt := 57) hx hb dX7_parse_39 (by decide) (fun b98 => ?_) (fun b98 => ?_)
  · have hf99 := zYes hf94 b98
    clear hf94
    refine lv_sipush (v := 2847) hx hb dX7_parse_57 (by decide) ?_
    exact b60_ 2847 σ92 hf99 _ _ _ Z97 (lv_sub hl [0] rfl)
  · have hf100 := zNot hf94 b98
    clear hf94
    refine lv_aload_n hx hb dX7_parse_42 rfl (lv_at hl 0 rfl) ?_
    refine lv_aload_n hx hb dX7_parse_43 rfl (lv_at hl 0 rfl) ?_
    refine zy_get (v := .ref (ad 1)) X Z97 mL_ok mk_0 rfl rfl (fun w h => List.mem_cons_of_mem _ (List.mem_append_right _ h)) 0 rfl (zz_m 7 rfl) rfl dX7_parse_44 ?_
    refine lv_iconst (v := 1) hx hb dX7_parse_47 (by decide) ?_
    refine zy_ild X Z97 mL_ok mk_1 ml_1 (zz_in 1 3047 rfl) dX7_parse_48 ?_
    refine zz_v (v := σ92 1 1) rfl ?_
    obtain ⟨r101, σ102, hc103, hf104⟩ := zBd hf100
    clear hf100
    refine zy_ci (r0 := r101) (WS1 := zg_W ML ad cA σ102) (TYS1 := zg_T ML cA) Z97 (va_runV (As := [.int (σ92 1 1)]) (rest := [.ref (ad 0)]) X (c_X7_textAt l D V ad cA (σ92 1 1) σ92 r101 σ102 hc103 H95.size) (cwV 1 hts gX7_parse_X7_textAt rfl rfl rfl ⟨rfl, zh_X7_textAt⟩ ⟨Nat.le_of_ble_eq_true rfl, Nat.le_of_ble_eq_true rfl⟩) (zy_pV (ci := 7) Z97 mL_ok mk_0 rfl rfl) rfl rfl hl.1 rfl (lv_room (Nat.le_of_ble_eq_true rfl)) dX7_parse_49 ⟨Nat.le_of_ble_eq_true rfl, Nat.le_of_ble_eq_true rfl⟩) (fun H105 lo106 Z107 => ?_)
    clear Z97 hc103
    refine lv_iconst (v := 4) hx hb dX7_parse_52 (by decide) ?_
    refine lv_iadd hx hb dX7_parse_53 ?_
    refine lv_goto (tgt := 60) hx hb dX7_parse_54 (by decide) ?_
    exact b60_ (r101 + 4) σ102 hf104 _ _ _ Z107 (lv_sub hl [0] rfl)
def B_X7_pour_118 (a1 : Int32) (rec27_ : Int32 → Int32 → zg_S → Option (Int32 × zg_S)) (x3 : Int32) (y0 : Int32) (y1 : Int32) (σ : zg_S) : Option (Int32 × zg_S) := rec27_ (y1 + y0) (x3 + 1) σ
def B_X7_pour_91 (a1 : Int32) (rec27_ : Int32 → Int32 → zg_S → Option (Int32 × zg_S)) (x2 : Int32) (x3 : Int32) (y0 : Int32) (σ : zg_S) : Option (Int32 × zg_S) := zbd (f_X7_becomes ((11 + (4 * x3)) + 2) y0 σ) (fun (r7 : Int32) (σ8 : zg_S) => (if y0 = r7 then B_X7_pour_118 a1 rec27_ x3 0 x2 σ8 else B_X7_pour_118 a1 rec27_ x3 1 x2 σ8))
def B_X7_pour_27 (a1 : Int32) (rec27_ : Int32 → Int32 → zg_S → Option (Int32 × zg_S)) (x2 : Int32) (x3 : Int32) (σ : zg_S) : Option (Int32 × zg_S) := (if zin a1 4 = true then (if (σ 5 (Int32.toNatClampNeg a1)) ≤ x3 then some (x2, σ) else (if (σ 1 0) ≤ x3 then some (x2, σ) else (if zin ((24 * a1) + x3) 96 = true then zlet (σ 6 (Int32.toNatClampNeg ((24 * a1) + x3))) (fun (y29 : Int32) => (if y29 = (-1000000005) then (if zin ((11 + (4 * x3)) + 2) 3047 = true then B_X7_pour_91 a1 rec27_ x2 x3 (σ 1 (Int32.toNatClampNeg ((11 + (4 * x3)) + 2))) σ else none) else zbd (f_X7_within y29 999 σ) (fun (r36 : Int32) (σ37 : zg_S) => B_X7_pour_91 a1 rec27_ x2 x3 r36 σ37))) else none))) else none)
def L_X7_pour_27 (a1 : Int32) : Nat → Int32 → Int32 → zg_S → Option (Int32 × zg_S) := zfix (fun _ _ _ => none) (B_X7_pour_27 a1)
def f_X7_pour (a1 : Int32) (σ : zg_S) : Option (Int32 × zg_S) := zbd (f_X7_isSheet a1 σ) (fun (r47 : Int32) (σ48 : zg_S) => (if r47 = 0 then some ((-1000000001), σ48) else (if zin a1 4 = true then (if 0 ≤ (σ48 4 (Int32.toNatClampNeg a1)) then L_X7_pour_27 a1 zfu 0 0 σ48 else some ((-1000000011), σ48)) else none)))
set_option maxHeartbeats 4000000 in
set_option maxRecDepth 100000 in
theorem c_X7_pour (l : Launch) (D : va_G) (V : zz_V) (ad : Nat → Nat) (cA : Nat → ClassId) (a1 : Int32)  (σ : zg_S) (r0 : Int32) (σf : zg_S) (hf : f_X7_pour a1 σ = some (r0, σf)) : zM_I l yX7_pour wsX7_pour 2 45 D V ML ad cA [.ref (ad 0), .int a1] σ r0 σf := by
  intro sz
  refine Met.ofW (cc := cX7_pour) (maxL := 6) (ret := (some .int)) (by decide) rfl ?_
  intro p e s m args below meth c s₁ B hml hv
  obtain ⟨rfl, hC⟩ := hv
  have hx := B.exec
  have hb := B.bytes
  have hr := B.returns
  have hts := atoms_spec (ws := wsX7_pour) B.pre
  have hown : s.vm.findClass RX7 = some m.cls := findClass_of_methodNamed B.named
  have hlk := B.notSynchronized
  have X : CallFix p m c cX7_pour 6 s _ wsX7_pour RX7 := ⟨hx, hb, hml, hown, hts⟩
  have Z := zz_enter hC
  generalize va_A (zg_W ML ad cA σ) sz = A at Z ⊢
  have hl := lv_entry ([.ref (ad 0), .int a1]) (n := 6) (Nat.le_of_ble_eq_true rfl)
  rw [lg_entry_eq]
  generalize (lg_sl ([.ref (ad 0), .int a1]) ++ List.replicate (6 - (lg_sl ([.ref (ad 0), .int a1])).length) Slot.unset).toArray = ls at hl ⊢
  have hl : lv_has ls 6 [(0, .ref (ad 0)), (1, .int a1)] := hl
  unfold f_X7_pour at hf
  have b27_ : ∀ (k27_ : Nat) (x2 : Int32) (x3 : Int32) (σ : zg_S), L_X7_pour_27 a1 k27_ x2 x3 σ = some (r0, σf) → ∀ (H : Heap) (locs : List Loc) (ls : Array Slot), zz_S D V A s (zg_W ML ad cA σ) (zg_T ML cA) H locs → lv_has ls 6 [(0, .ref (ad 0)), (1, .int a1), (2, .int x2), (3, .int x3)] → W p l e (headSpec wsX7_pour { frames := 2, cells := 0, slots := 0, locals := 45 }).room s m (List.toArray [.ref (ad 0), .int a1]) below meth c H locs 0 0 (MQ below (va_Qi (fun r (_ : Unit) => r = r0) (fun _ t => zz_B D A (zg_W ML ad cA σf) (zg_T ML cA) t) A) (List.toArray [.ref (ad 0), .int a1]) s 0 0 A) (F0 m 27 ls []) := by
    intro k27_
    induction k27_ with
    | zero =>
        intro x2 x3 σ hf27_ H27_ locs27_ ls27_ Z27_ hl27_
        exact zNone hf27_
    | succ k27_ ih27_ =>
        intro x2 x3 σ hf27_ H27_ locs27_ ls27_ Z27_ hl27_
        replace hf27_ : B_X7_pour_27 a1 (L_X7_pour_27 a1 k27_) x2 x3 σ = some (r0, σf) := hf27_
        unfold B_X7_pour_27 at hf27_
        have b91_ : ∀ (x2 : Int32) (x3 : Int32) (y0 : Int32) (σ : zg_S), B_X7_pour_91 a1 (L_X7_pour_27 a1 k27_) x2 x3 y0 σ = some (r0, σf) → ∀ (H : Heap) (locs : List Loc) (ls : Array Slot), zz_S D V A s (zg_W ML ad cA σ) (zg_T ML cA) H locs → lv_has ls 6 [(0, .ref (ad 0)), (1, .int a1), (2, .int x2), (3, .int x3)] → W p l e (headSpec wsX7_pour { frames := 2, cells := 0, slots := 0, locals := 45 }).room s m (List.toArray [.ref (ad 0), .int a1]) below meth c H locs 0 0 (MQ below (va_Qi (fun r (_ : Unit) => r = r0) (fun _ t => zz_B D A (zg_W ML ad cA σf) (zg_T ML cA) t) A) (List.toArray [.ref (ad 0), .int a1]) s 0 0 A) (F0 m 91 ls [.int y0]) := by
          intro x2 x3 y0 σ hf91_ H91_ locs91_ ls91_ Z91_ hl91_
          unfold B_X7_pour_91 at hf91_
          have b118_ : ∀ (x3 : Int32) (y0 : Int32) (y1 : Int32) (σ : zg_S), B_X7_pour_118 a1 (L_X7_pour_27 a1 k27_) x3 y0 y1 σ = some (r0, σf) → ∀ (H : Heap) (locs : List Loc) (ls : Array Slot), zz_S D V A s (zg_W ML ad cA σ) (zg_T ML cA) H locs → lv_has ls 6 [(0, .ref (ad 0)), (1, .int a1), (3, .int x3)] → W p l e (headSpec wsX7_pour { frames := 2, cells := 0, slots := 0, locals := 45 }).room s m (List.toArray [.ref (ad 0), .int a1]) below meth c H locs 0 0 (MQ below (va_Qi (fun r (_ : Unit) => r = r0) (fun _ t => zz_B D A (zg_W ML ad cA σf) (zg_T ML cA) t) A) (List.toArray [.ref (ad 0), .int a1]) s 0 0 A) (F0 m 118 ls [.int y0, .int y1]) := by
            intro x3 y0 y1 σ hf118_ H118_ locs118_ ls118_ Z118_ hl118_
            unfold B_X7_pour_118 at hf118_
            refine lv_iadd hx hb dX7_pour_118 ?_
            refine lv_istore_n (lv' := [(2, .int (y1 + y0)), (0, .ref (ad 0)), (1, .int a1), (3, .int x3)]) hx hb dX7_pour_119 rfl hl118_ (by decide) rfl (fun ls2 hl1 => ?_)
            clear hl118_
            refine lv_iinc (v := (x3 + 1)) (lv' := [(3, .int (x3 + 1)), (2, .int (y1 + y0)), (0, .ref (ad 0)), (1, .int a1)]) hx hb dX7_pour_120 hl1 (k := 3) rfl rfl (by decide) rfl (fun ls4 hl3 => ?_)
            clear hl1
            refine lv_goto (tgt := 27) hx hb dX7_pour_123 (by decide) ?_
            exact ih27_ (y1 + y0) (x3 + 1) σ hf118_ _ _ _ Z118_ (lv_sub hl3 [2, 3, 1, 0] rfl)
          refine lv_istore (lv' := [(5, .int y0), (0, .ref (ad 0)), (1, .int a1), (2, .int x2), (3, .int x3)]) hx hb dX7_pour_91 hl91_ (by decide) rfl (fun ls6 hl5 => ?_)
          clear hl91_
          refine lv_iload_n hx hb dX7_pour_93 rfl (lv_at hl5 3 rfl) ?_
          refine lv_iload hx hb dX7_pour_94 (lv_at hl5 0 rfl) ?_
          refine lv_aload_n hx hb dX7_pour_96 rfl (lv_at hl5 1 rfl) ?_
          refine lv_bipush (v := 11) hx hb dX7_pour_97 (by decide) ?_
          refine lv_iconst (v := 4) hx hb dX7_pour_99 (by decide) ?_
          refine lv_iload_n hx hb dX7_pour_100 rfl (lv_at hl5 4 rfl) ?_
          refine lv_imul hx hb dX7_pour_101 ?_
          refine lv_iadd hx hb dX7_pour_102 ?_
          refine lv_iconst (v := 2) hx hb dX7_pour_103 (by decide) ?_
          refine lv_iadd hx hb dX7_pour_104 ?_
          refine lv_iload hx hb dX7_pour_105 (lv_at hl5 0 rfl) ?_
          obtain ⟨r7, σ8, hc9, hf10⟩ := zBd hf91_
          clear hf91_
          refine zy_ci (r0 := r7) (WS1 := zg_W ML ad cA σ8) (TYS1 := zg_T ML cA) Z91_ (va_runV (As := [.int ((11 + (4 * x3)) + 2), .int y0]) (rest := [.int y0, .int x2]) X (c_X7_becomes l D V ad cA ((11 + (4 * x3)) + 2) y0 σ r7 σ8 hc9 H91_.size) (cwV 2 hts gX7_pour_X7_becomes rfl rfl rfl ⟨rfl, zh_X7_becomes⟩ ⟨Nat.le_of_ble_eq_true rfl, Nat.le_of_ble_eq_true rfl⟩) (zy_pV (ci := 7) Z91_ mL_ok mk_0 rfl rfl) rfl rfl hl5.1 rfl (lv_room (Nat.le_of_ble_eq_true rfl)) dX7_pour_107 ⟨Nat.le_of_ble_eq_true rfl, Nat.le_of_ble_eq_true rfl⟩) (fun H11 lo12 Z13 => ?_)
          clear Z91_ hc9
          refine lv_icmp_ne (tgt := 117) hx hb dX7_pour_110 (by decide) (fun b14 => ?_) (fun b14 => ?_)
          · have hf15 := zNot hf10 b14
            clear hf10
            refine lv_iconst (v := 1) hx hb dX7_pour_117 (by decide) ?_
            exact b118_ x3 1 x2 σ8 hf15 _ _ _ Z13 (lv_sub hl5 [1, 2, 4] rfl)
          · have hf16 := zYes hf10 b14
            clear hf10
            refine lv_iconst (v := 0) hx hb dX7_pour_113 (by decide) ?_
            refine lv_goto (tgt := 118) hx hb dX7_pour_114 (by decide) ?_
            exact b118_ x3 0 x2 σ8 hf16 _ _ _ Z13 (lv_sub hl5 [1, 2, 4] rfl)
        refine lv_iload_n hx hb dX7_pour_27 rfl (lv_at hl27_ 3 rfl) ?_
        refine lv_aload_n hx hb dX7_pour_28 rfl (lv_at hl27_ 0 rfl) ?_
        refine zy_get (v := .ref (ad 5)) X Z27_ mL_ok mk_0 rfl rfl (fun w h => List.mem_cons_of_mem _ (List.mem_append_right _ h)) 5 rfl (zz_m 4 rfl) rfl dX7_pour_29 ?_
        refine lv_iload_n hx hb dX7_pour_32 rfl (lv_at hl27_ 1 rfl) ?_
        obtain ⟨⟨i17, j18⟩, hf19⟩ := zG hf27_
        clear hf27_
        refine zy_ild X Z27_ mL_ok mk_5 ml_5 i17 dX7_pour_33 ?_
        refine lv_icmp_ge (tgt := 126) hx hb dX7_pour_34 (by decide) (fun b20 => ?_) (fun b20 => ?_)
        · have hf21 := zYes hf19 b20
          clear hf19
          refine lv_iload_n hx hb dX7_pour_126 rfl (lv_at hl27_ 2 rfl) ?_
          exact zy_iret X hr hlk Z27_ (zEnd hf21) dX7_pour_127
        · have hf22 := zNot hf19 b20
          clear hf19
          refine lv_iload_n hx hb dX7_pour_37 rfl (lv_at hl27_ 3 rfl) ?_
          refine lv_aload_n hx hb dX7_pour_38 rfl (lv_at hl27_ 0 rfl) ?_
          refine zy_get (v := .ref (ad 1)) X Z27_ mL_ok mk_0 rfl rfl (fun w h => List.mem_cons_of_mem _ (List.mem_append_right _ h)) 0 rfl (zz_m 5 rfl) rfl dX7_pour_39 ?_
          refine lv_iconst (v := 0) hx hb dX7_pour_42 (by decide) ?_
          refine zy_ild X Z27_ mL_ok mk_1 ml_1 (zz_in 0 3047 rfl) dX7_pour_43 ?_
          refine zz_v (v := σ 1 0) rfl ?_
          refine lv_icmp_ge (tgt := 126) hx hb dX7_pour_44 (by decide) (fun b23 => ?_) (fun b23 => ?_)
          · have hf24 := zYes hf22 b23
            clear hf22
            refine lv_iload_n hx hb dX7_pour_126 rfl (lv_at hl27_ 2 rfl) ?_
            exact zy_iret X hr hlk Z27_ (zEnd hf24) dX7_pour_127
          · have hf25 := zNot hf22 b23
            clear hf22
            refine lv_aload_n hx hb dX7_pour_47 rfl (lv_at hl27_ 0 rfl) ?_
            refine zy_get (v := .ref (ad 6)) X Z27_ mL_ok mk_0 rfl rfl (fun w h => List.mem_cons_of_mem _ (List.mem_append_right _ h)) 6 rfl (zz_m 6 rfl) rfl dX7_pour_48 ?_
            refine lv_bipush (v := 24) hx hb dX7_pour_51 (by decide) ?_
            refine lv_iload_n hx hb dX7_pour_53 rfl (lv_at hl27_ 1 rfl) ?_
            refine lv_imul hx hb dX7_pour_54 ?_
            refine lv_iload_n hx hb dX7_pour_55 rfl (lv_at hl27_ 3 rfl) ?_
            refine lv_iadd hx hb dX7_pour_56 ?_
            obtain ⟨⟨i26, j27⟩, hf28⟩ := zG hf25
            clear hf25
            refine zy_ild X Z27_ mL_ok mk_6 ml_6 i26 dX7_pour_57 ?_
            obtain ⟨y29, ey30, hf31⟩ := zLet hf28
            clear hf28
            refine zz_v (v := y29) ey30.symm ?_
            clear ey30
            refine lv_istore (lv' := [(4, .int y29), (0, .ref (ad 0)), (1, .int a1), (2, .int x2), (3, .int x3)]) hx hb dX7_pour_58 hl27_ (by decide) rfl (fun ls33 hl32 => ?_)
            clear hl27_
            refine lv_iload hx hb dX7_pour_60 (lv_at hl32 0 rfl) ?_
            refine lv_ldc (v := (-1000000005)) hx hb hown (hts _ (zz_m 7 rfl)) dX7_pour_62 ?_
            refine lv_icmp_ne (tgt := 83) hx hb dX7_pour_64 (by decide) (fun b34 => ?_) (fun b34 => ?_)
            · have hf35 := zNot hf31 b34
              clear hf31
              refine lv_iload hx hb dX7_pour_83 (lv_at hl32 0 rfl) ?_
              refine lv_sipush (v := 999) hx hb dX7_pour_85 (by decide) ?_
              obtain ⟨r36, σ37, hc38, hf39⟩ := zBd hf35
              clear hf35
              refine zy_ci (r0 := r36) (WS1 := zg_W ML ad cA σ37) (TYS1 := zg_T ML cA) Z27_ (va_runS (As := [.int y29, .int 999]) (rest := []) X (c_X7_within l D V ad cA y29 999 σ r36 σ37 hc38 H27_.size) (va_cwS 2 hts gX7_pour_X7_within rfl rfl rfl zh_X7_within ⟨Nat.le_of_ble_eq_true rfl, Nat.le_of_ble_eq_true rfl⟩) (zz_pS Z27_) rfl rfl hl32.1 rfl (lv_room (Nat.le_of_ble_eq_true rfl)) dX7_pour_88 ⟨Nat.le_of_ble_eq_true rfl, Nat.le_of_ble_eq_true rfl⟩) (fun H40 lo41 Z42 => ?_)
              clear Z27_ hc38
              exact b91_ x2 x3 r36 σ37 hf39 _ _ _ Z42 (lv_sub hl32 [1, 2, 3, 4] rfl)
            · have hf43 := zYes hf31 b34
              clear hf31
              refine lv_aload_n hx hb dX7_pour_67 rfl (lv_at hl32 1 rfl) ?_
              refine zy_get (v := .ref (ad 1)) X Z27_ mL_ok mk_0 rfl rfl (fun w h => List.mem_cons_of_mem _ (List.mem_append_right _ h)) 0 rfl (zz_m 5 rfl) rfl dX7_pour_68 ?_
              refine lv_bipush (v := 11) hx hb dX7_pour_71 (by decide) ?_
              refine lv_iconst (v := 4) hx hb dX7_pour_73 (by decide) ?_
              refine lv_iload_n hx hb dX7_pour_74 rfl (lv_at hl32 4 rfl) ?_
              refine lv_imul hx hb dX7_pour_75 ?_
              refine lv_iadd hx hb dX7_pour_76 ?_
              refine lv_iconst (v := 2) hx hb dX7_pour_77 (by decide) ?_
              refine lv_iadd hx hb dX7_pour_78 ?_
              obtain ⟨⟨i44, j45⟩, hf46⟩ := zG hf43
              clear hf43
              refine zy_ild X Z27_ mL_ok mk_1 ml_1 i44 dX7_pour_79 ?_
              refine lv_goto (tgt := 91) hx hb dX7_pour_80 (by decide) ?_
              exact b91_ x2 x3 (σ 1 (Int32.toNatClampNeg ((11 + (4 * x3)) + 2))) σ hf46 _ _ _ Z27_ (lv_sub hl32 [1, 2, 3, 4] rfl)
  refine lv_iload_n hx hb dX7_pour_0 rfl (lv_at hl 1 rfl) ?_
  obtain ⟨r47, σ48, hc49, hf50⟩ := zBd hf
  clear hf
  refine zy_ci (r0 := r47) (WS1 := zg_W ML ad cA σ48) (TYS1 := zg_T ML cA) Z (va_runS (As := [.int a1]) (rest := []) X (c_X7_isSheet l D V ad cA a1 σ r47 σ48 hc49 s.heap.size) (va_cwS 1 hts gX7_pour_X7_isSheet rfl rfl rfl zh_X7_isSheet ⟨Nat.le_of_ble_eq_true rfl, Nat.le_of_ble_eq_true rfl⟩) (zz_pS Z) rfl rfl hl.1 rfl (lv_room (Nat.le_of_ble_eq_true rfl)) dX7_pour_1 ⟨Nat.le_of_ble_eq_true rfl, Nat.le_of_ble_eq_true rfl⟩) (fun H51 lo52 Z53 => ?_)
  clear Z hc49
  refine lv_if_ne (tgt := 10) hx hb dX7_pour_4 (by decide) (fun b54 => ?_) (fun b54 => ?_)
  · have hf55 := zNot hf50 b54
    clear hf50
    refine lv_aload_n hx hb dX7_pour_10 rfl (lv_at hl 0 rfl) ?_
    refine zy_get (v := .ref (ad 4)) X Z53 mL_ok mk_0 rfl rfl (fun w h => List.mem_cons_of_mem _ (List.mem_append_right _ h)) 4 rfl (zz_m 2 rfl) rfl dX7_pour_11 ?_
    refine lv_iload_n hx hb dX7_pour_14 rfl (lv_at hl 1 rfl) ?_
    obtain ⟨⟨i56, j57⟩, hf58⟩ := zG hf55
    clear hf55
    refine zy_ild X Z53 mL_ok mk_4 ml_4 i56 dX7_pour_15 ?_
    refine lv_if_ge (tgt := 23) hx hb dX7_pour_16 (by decide) (fun b59 => ?_) (fun b59 => ?_)
    · have hf60 := zYes hf58 b59
      clear hf58
      refine lv_iconst (v := 0) hx hb dX7_pour_23 (by decide) ?_
      refine lv_istore_n (lv' := [(2, .int 0), (0, .ref (ad 0)), (1, .int a1)]) hx hb dX7_pour_24 rfl hl (by decide) rfl (fun ls62 hl61 => ?_)
      clear hl
      refine lv_iconst (v := 0) hx hb dX7_pour_25 (by decide) ?_
      refine lv_istore_n (lv' := [(3, .int 0), (2, .int 0), (0, .ref (ad 0)), (1, .int a1)]) hx hb dX7_pour_26 rfl hl61 (by decide) rfl (fun ls64 hl63 => ?_)
      clear hl61
      exact b27_ zfu 0 0 σ48 hf60 _ _ _ Z53 (lv_sub hl63 [2, 3, 1, 0] rfl)
    · have hf65 := zNot hf58 b59
      clear hf58
      refine lv_ldcw (v := (-1000000011)) hx hb hown (hts _ (zz_m 3 rfl)) dX7_pour_19 ?_
      exact zy_iret X hr hlk Z53 (zEnd hf65) dX7_pour_22
  · have hf66 := zYes hf50 b54
    clear hf50
    refine lv_ldc (v := (-1000000001)) hx hb hown (hts _ (zz_m 1 rfl)) dX7_pour_7 ?_
    exact zy_iret X hr hlk Z53 (zEnd hf66) dX7_pour_9
def B_X7_reads_74 (a1 : Int32) (rec25_ : Int32 → zg_S → Option (Int32 × zg_S)) (x2 : Int32) (σ : zg_S) : Option (Int32 × zg_S) := rec25_ (x2 + 1) σ
def B_X7_reads_25 (a1 : Int32) (rec25_ : Int32 → zg_S → Option (Int32 × zg_S)) (x2 : Int32) (σ : zg_S) : Option (Int32 × zg_S) := (if zin a1 4 = true then (if (σ 5 (Int32.toNatClampNeg a1)) ≤ x2 then some ((-1000000005), σ) else (if zin ((24 * a1) + x2) 96 = true then zlet (σ 6 (Int32.toNatClampNeg ((24 * a1) + x2))) (fun (y12 : Int32) => (if y12 = (-1000000005) then B_X7_reads_74 a1 rec25_ x2 σ else (if (σ 1 0) ≤ x2 then some (x2, σ) else zbd (f_X7_spoils x2 σ) (fun (r23 : Int32) (σ24 : zg_S) => (if y12 = r23 then B_X7_reads_74 a1 rec25_ x2 σ24 else some (x2, σ24)))))) else none)) else none)
def L_X7_reads_25 (a1 : Int32) : Nat → Int32 → zg_S → Option (Int32 × zg_S) := zfix (fun _ _ => none) (B_X7_reads_25 a1)
def f_X7_reads (a1 : Int32) (σ : zg_S) : Option (Int32 × zg_S) := zbd (f_X7_isSheet a1 σ) (fun (r33 : Int32) (σ34 : zg_S) => (if r33 = 0 then some ((-1000000001), σ34) else (if zin a1 4 = true then (if 0 ≤ (σ34 4 (Int32.toNatClampNeg a1)) then L_X7_reads_25 a1 zfu 0 σ34 else some ((-1000000011), σ34)) else none)))
set_option maxHeartbeats 4000000 in
set_option maxRecDepth 100000 in
theorem c_X7_reads (l : Launch) (D : va_G) (V : zz_V) (ad : Nat → Nat) (cA : Nat → ClassId) (a1 : Int32)  (σ : zg_S) (r0 : Int32) (σf : zg_S) (hf : f_X7_reads a1 σ = some (r0, σf)) : zM_I l yX7_reads wsX7_reads 4 91 D V ML ad cA [.ref (ad 0), .int a1] σ r0 σf := by
  intro sz
  refine Met.ofW (cc := cX7_reads) (maxL := 4) (ret := (some .int)) (by decide) rfl ?_
  intro p e s m args below meth c s₁ B hml hv
  obtain ⟨rfl, hC⟩ := hv
  have hx := B.exec
  have hb := B.bytes
  have hr := B.returns
  have hts := atoms_spec (ws := wsX7_reads) B.pre
  have hown : s.vm.findClass RX7 = some m.cls := findClass_of_methodNamed B.named
  have hlk := B.notSynchronized
  have X : CallFix p m c cX7_reads 4 s _ wsX7_reads RX7 := ⟨hx, hb, hml, hown, hts⟩
  have Z := zz_enter hC
  generalize va_A (zg_W ML ad cA σ) sz = A at Z ⊢
  have hl := lv_entry ([.ref (ad 0), .int a1]) (n := 4) (Nat.le_of_ble_eq_true rfl)
  rw [lg_entry_eq]
  generalize (lg_sl ([.ref (ad 0), .int a1]) ++ List.replicate (4 - (lg_sl ([.ref (ad 0), .int a1])).length) Slot.unset).toArray = ls at hl ⊢
  have hl : lv_has ls 4 [(0, .ref (ad 0)), (1, .int a1)] := hl
  unfold f_X7_reads at hf
  have b25_ : ∀ (k25_ : Nat) (x2 : Int32) (σ : zg_S), L_X7_reads_25 a1 k25_ x2 σ = some (r0, σf) → ∀ (H : Heap) (locs : List Loc) (ls : Array Slot), zz_S D V A s (zg_W ML ad cA σ) (zg_T ML cA) H locs → lv_has ls 4 [(0, .ref (ad 0)), (1, .int a1), (2, .int x2)] → W p l e (headSpec wsX7_reads { frames := 4, cells := 0, slots := 0, locals := 91 }).room s m (List.toArray [.ref (ad 0), .int a1]) below meth c H locs 0 0 (MQ below (va_Qi (fun r (_ : Unit) => r = r0) (fun _ t => zz_B D A (zg_W ML ad cA σf) (zg_T ML cA) t) A) (List.toArray [.ref (ad 0), .int a1]) s 0 0 A) (F0 m 25 ls []) := by
    intro k25_
    induction k25_ with
    | zero =>
        intro x2 σ hf25_ H25_ locs25_ ls25_ Z25_ hl25_
        exact zNone hf25_
    | succ k25_ ih25_ =>
        intro x2 σ hf25_ H25_ locs25_ ls25_ Z25_ hl25_
        replace hf25_ : B_X7_reads_25 a1 (L_X7_reads_25 a1 k25_) x2 σ = some (r0, σf) := hf25_
        unfold B_X7_reads_25 at hf25_
        have b74_ : ∀ (x2 : Int32) (σ : zg_S), B_X7_reads_74 a1 (L_X7_reads_25 a1 k25_) x2 σ = some (r0, σf) → ∀ (H : Heap) (locs : List Loc) (ls : Array Slot), zz_S D V A s (zg_W ML ad cA σ) (zg_T ML cA) H locs → lv_has ls 4 [(0, .ref (ad 0)), (1, .int a1), (2, .int x2)] → W p l e (headSpec wsX7_reads { frames := 4, cells := 0, slots := 0, locals := 91 }).room s m (List.toArray [.ref (ad 0), .int a1]) below meth c H locs 0 0 (MQ below (va_Qi (fun r (_ : Unit) => r = r0) (fun _ t => zz_B D A (zg_W ML ad cA σf) (zg_T ML cA) t) A) (List.toArray [.ref (ad 0), .int a1]) s 0 0 A) (F0 m 74 ls []) := by
          intro x2 σ hf74_ H74_ locs74_ ls74_ Z74_ hl74_
          unfold B_X7_reads_74 at hf74_
          refine lv_iinc (v := (x2 + 1)) (lv' := [(2, .int (x2 + 1)), (0, .ref (ad 0)), (1, .int a1)]) hx hb dX7_reads_74 hl74_ (k := 2) rfl rfl (by decide) rfl (fun ls2 hl1 => ?_)
          clear hl74_
          refine lv_goto (tgt := 25) hx hb dX7_reads_77 (by decide) ?_
          exact ih25_ (x2 + 1) σ hf74_ _ _ _ Z74_ (lv_sub hl1 [1, 2, 0] rfl)
        refine lv_iload_n hx hb dX7_reads_25 rfl (lv_at hl25_ 2 rfl) ?_
        refine lv_aload_n hx hb dX7_reads_26 rfl (lv_at hl25_ 0 rfl) ?_
        refine zy_get (v := .ref (ad 5)) X Z25_ mL_ok mk_0 rfl rfl (fun w h => List.mem_cons_of_mem _ (List.mem_append_right _ h)) 5 rfl (zz_m 4 rfl) rfl dX7_reads_27 ?_
        refine lv_iload_n hx hb dX7_reads_30 rfl (lv_at hl25_ 1 rfl) ?_
        obtain ⟨⟨i3, j4⟩, hf5⟩ := zG hf25_
        clear hf25_
        refine zy_ild X Z25_ mL_ok mk_5 ml_5 i3 dX7_reads_31 ?_
        refine lv_icmp_ge (tgt := 80) hx hb dX7_reads_32 (by decide) (fun b6 => ?_) (fun b6 => ?_)
        · have hf7 := zYes hf5 b6
          clear hf5
          refine lv_ldc (v := (-1000000005)) hx hb hown (hts _ (zz_m 6 rfl)) dX7_reads_80 ?_
          exact zy_iret X hr hlk Z25_ (zEnd hf7) dX7_reads_82
        · have hf8 := zNot hf5 b6
          clear hf5
          refine lv_aload_n hx hb dX7_reads_35 rfl (lv_at hl25_ 0 rfl) ?_
          refine zy_get (v := .ref (ad 6)) X Z25_ mL_ok mk_0 rfl rfl (fun w h => List.mem_cons_of_mem _ (List.mem_append_right _ h)) 6 rfl (zz_m 5 rfl) rfl dX7_reads_36 ?_
          refine lv_bipush (v := 24) hx hb dX7_reads_39 (by decide) ?_
          refine lv_iload_n hx hb dX7_reads_41 rfl (lv_at hl25_ 1 rfl) ?_
          refine lv_imul hx hb dX7_reads_42 ?_
          refine lv_iload_n hx hb dX7_reads_43 rfl (lv_at hl25_ 2 rfl) ?_
          refine lv_iadd hx hb dX7_reads_44 ?_
          obtain ⟨⟨i9, j10⟩, hf11⟩ := zG hf8
          clear hf8
          refine zy_ild X Z25_ mL_ok mk_6 ml_6 i9 dX7_reads_45 ?_
          obtain ⟨y12, ey13, hf14⟩ := zLet hf11
          clear hf11
          refine zz_v (v := y12) ey13.symm ?_
          clear ey13
          refine lv_istore_n (lv' := [(3, .int y12), (0, .ref (ad 0)), (1, .int a1), (2, .int x2)]) hx hb dX7_reads_46 rfl hl25_ (by decide) rfl (fun ls16 hl15 => ?_)
          clear hl25_
          refine lv_iload_n hx hb dX7_reads_47 rfl (lv_at hl15 0 rfl) ?_
          refine lv_ldc (v := (-1000000005)) hx hb hown (hts _ (zz_m 6 rfl)) dX7_reads_48 ?_
          refine lv_icmp_eq (tgt := 74) hx hb dX7_reads_50 (by decide) (fun b17 => ?_) (fun b17 => ?_)
          · have hf18 := zYes hf14 b17
            clear hf14
            exact b74_ x2 σ hf18 _ _ _ Z25_ (lv_sub hl15 [1, 2, 3] rfl)
          · have hf19 := zNot hf14 b17
            clear hf14
            refine lv_iload_n hx hb dX7_reads_53 rfl (lv_at hl15 3 rfl) ?_
            refine lv_aload_n hx hb dX7_reads_54 rfl (lv_at hl15 1 rfl) ?_
            refine zy_get (v := .ref (ad 1)) X Z25_ mL_ok mk_0 rfl rfl (fun w h => List.mem_cons_of_mem _ (List.mem_append_right _ h)) 0 rfl (zz_m 7 rfl) rfl dX7_reads_55 ?_
            refine lv_iconst (v := 0) hx hb dX7_reads_58 (by decide) ?_
            refine zy_ild X Z25_ mL_ok mk_1 ml_1 (zz_in 0 3047 rfl) dX7_reads_59 ?_
            refine zz_v (v := σ 1 0) rfl ?_
            refine lv_icmp_ge (tgt := 72) hx hb dX7_reads_60 (by decide) (fun b20 => ?_) (fun b20 => ?_)
            · have hf21 := zYes hf19 b20
              clear hf19
              refine lv_iload_n hx hb dX7_reads_72 rfl (lv_at hl15 3 rfl) ?_
              exact zy_iret X hr hlk Z25_ (zEnd hf21) dX7_reads_73
            · have hf22 := zNot hf19 b20
              clear hf19
              refine lv_iload_n hx hb dX7_reads_63 rfl (lv_at hl15 0 rfl) ?_
              refine lv_aload_n hx hb dX7_reads_64 rfl (lv_at hl15 1 rfl) ?_
              refine lv_iload_n hx hb dX7_reads_65 rfl (lv_at hl15 3 rfl) ?_
              obtain ⟨r23, σ24, hc25, hf26⟩ := zBd hf22
              clear hf22
              refine zy_ci (r0 := r23) (WS1 := zg_W ML ad cA σ24) (TYS1 := zg_T ML cA) Z25_ (va_runV (As := [.int x2]) (rest := [.int y12]) X (c_X7_spoils l D V ad cA x2 σ r23 σ24 hc25 H25_.size) (cwV 1 hts gX7_reads_X7_spoils rfl rfl rfl ⟨rfl, zh_X7_spoils⟩ ⟨Nat.le_of_ble_eq_true rfl, Nat.le_of_ble_eq_true rfl⟩) (zy_pV (ci := 7) Z25_ mL_ok mk_0 rfl rfl) rfl rfl hl15.1 rfl (lv_room (Nat.le_of_ble_eq_true rfl)) dX7_reads_66 ⟨Nat.le_of_ble_eq_true rfl, Nat.le_of_ble_eq_true rfl⟩) (fun H27 lo28 Z29 => ?_)
              clear Z25_ hc25
              refine lv_icmp_eq (tgt := 74) hx hb dX7_reads_69 (by decide) (fun b30 => ?_) (fun b30 => ?_)
              · have hf31 := zYes hf26 b30
                clear hf26
                exact b74_ x2 σ24 hf31 _ _ _ Z29 (lv_sub hl15 [1, 2, 3] rfl)
              · have hf32 := zNot hf26 b30
                clear hf26
                refine lv_iload_n hx hb dX7_reads_72 rfl (lv_at hl15 3 rfl) ?_
                exact zy_iret X hr hlk Z29 (zEnd hf32) dX7_reads_73
  refine lv_iload_n hx hb dX7_reads_0 rfl (lv_at hl 1 rfl) ?_
  obtain ⟨r33, σ34, hc35, hf36⟩ := zBd hf
  clear hf
  refine zy_ci (r0 := r33) (WS1 := zg_W ML ad cA σ34) (TYS1 := zg_T ML cA) Z (va_runS (As := [.int a1]) (rest := []) X (c_X7_isSheet l D V ad cA a1 σ r33 σ34 hc35 s.heap.size) (va_cwS 1 hts gX7_reads_X7_isSheet rfl rfl rfl zh_X7_isSheet ⟨Nat.le_of_ble_eq_true rfl, Nat.le_of_ble_eq_true rfl⟩) (zz_pS Z) rfl rfl hl.1 rfl (lv_room (Nat.le_of_ble_eq_true rfl)) dX7_reads_1 ⟨Nat.le_of_ble_eq_true rfl, Nat.le_of_ble_eq_true rfl⟩) (fun H37 lo38 Z39 => ?_)
  clear Z hc35
  refine lv_if_ne (tgt := 10) hx hb dX7_reads_4 (by decide) (fun b40 => ?_) (fun b40 => ?_)
  · have hf41 := zNot hf36 b40
    clear hf36
    refine lv_aload_n hx hb dX7_reads_10 rfl (lv_at hl 0 rfl) ?_
    refine zy_get (v := .ref (ad 4)) X Z39 mL_ok mk_0 rfl rfl (fun w h => List.mem_cons_of_mem _ (List.mem_append_right _ h)) 4 rfl (zz_m 2 rfl) rfl dX7_reads_11 ?_
    refine lv_iload_n hx hb dX7_reads_14 rfl (lv_at hl 1 rfl) ?_
    obtain ⟨⟨i42, j43⟩, hf44⟩ := zG hf41
    clear hf41
    refine zy_ild X Z39 mL_ok mk_4 ml_4 i42 dX7_reads_15 ?_
    refine lv_if_ge (tgt := 23) hx hb dX7_reads_16 (by decide) (fun b45 => ?_) (fun b45 => ?_)
    · have hf46 := zYes hf44 b45
      clear hf44
      refine lv_iconst (v := 0) hx hb dX7_reads_23 (by decide) ?_
      refine lv_istore_n (lv' := [(2, .int 0), (0, .ref (ad 0)), (1, .int a1)]) hx hb dX7_reads_24 rfl hl (by decide) rfl (fun ls48 hl47 => ?_)
      clear hl
      exact b25_ zfu 0 σ34 hf46 _ _ _ Z39 (lv_sub hl47 [1, 2, 0] rfl)
    · have hf49 := zNot hf44 b45
      clear hf44
      refine lv_ldcw (v := (-1000000011)) hx hb hown (hts _ (zz_m 3 rfl)) dX7_reads_19 ?_
      exact zy_iret X hr hlk Z39 (zEnd hf49) dX7_reads_22
  · have hf50 := zYes hf36 b40
    clear hf36
    refine lv_ldc (v := (-1000000001)) hx hb hown (hts _ (zz_m 1 rfl)) dX7_reads_7 ?_
    exact zy_iret X hr hlk Z39 (zEnd hf50) dX7_reads_9
def f_X7_rest (a1 : Int32) (a2 : Int32) (σ : zg_S) : Option (Int32 × zg_S) := zbd (f_X7_isSlot a1 σ) (fun (r1 : Int32) (σ2 : zg_S) => (if r1 = 0 then some ((-1000000001), σ2) else (if zin a1 5 = true then (if (σ2 7 (Int32.toNatClampNeg a1)) = 3 then (if a2 = 0 then some ((-1000000002), σ2) else (if a2 = 0 then none else some ((σ2 8 (Int32.toNatClampNeg a1)) - (σ2 8 (Int32.toNatClampNeg a1)) / a2 * a2, σ2))) else (if (σ2 7 (Int32.toNatClampNeg a1)) = 0 then some ((-1000000011), σ2) else some ((-1000000012), σ2))) else none)))
set_option maxHeartbeats 4000000 in
set_option maxRecDepth 100000 in
theorem c_X7_rest (l : Launch) (D : va_G) (V : zz_V) (ad : Nat → Nat) (cA : Nat → ClassId) (a1 : Int32) (a2 : Int32)  (σ : zg_S) (r0 : Int32) (σf : zg_S) (hf : f_X7_rest a1 a2 σ = some (r0, σf)) : zM_I l yX7_rest wsX7_rest 2 45 D V ML ad cA [.ref (ad 0), .int a1, .int a2] σ r0 σf := by
  intro sz
  refine Met.ofW (cc := cX7_rest) (maxL := 3) (ret := (some .int)) (by decide) rfl ?_
  intro p e s m args below meth c s₁ B hml hv
  obtain ⟨rfl, hC⟩ := hv
  have hx := B.exec
  have hb := B.bytes
  have hr := B.returns
  have hts := atoms_spec (ws := wsX7_rest) B.pre
  have hown : s.vm.findClass RX7 = some m.cls := findClass_of_methodNamed B.named
  have hlk := B.notSynchronized
  have X : CallFix p m c cX7_rest 3 s _ wsX7_rest RX7 := ⟨hx, hb, hml, hown, hts⟩
  have Z := zz_enter hC
  generalize va_A (zg_W ML ad cA σ) sz = A at Z ⊢
  have hl := lv_entry ([.ref (ad 0), .int a1, .int a2]) (n := 3) (Nat.le_of_ble_eq_true rfl)
  rw [lg_entry_eq]
  generalize (lg_sl ([.ref (ad 0), .int a1, .int a2]) ++ List.replicate (3 - (lg_sl ([.ref (ad 0), .int a1, .int a2])).length) Slot.unset).toArray = ls at hl ⊢
  have hl : lv_has ls 3 [(0, .ref (ad 0)), (1, .int a1), (2, .int a2)] := hl
  unfold f_X7_rest at hf
  refine lv_iload_n hx hb dX7_rest_0 rfl (lv_at hl 1 rfl) ?_
  obtain ⟨r1, σ2, hc3, hf4⟩ := zBd hf
  clear hf
  refine zy_ci (r0 := r1) (WS1 := zg_W ML ad cA σ2) (TYS1 := zg_T ML cA) Z (va_runS (As := [.int a1]) (rest := []) X (c_X7_isSlot l D V ad cA a1 σ r1 σ2 hc3 s.heap.size) (va_cwS 1 hts gX7_rest_X7_isSlot rfl rfl rfl zh_X7_isSlot ⟨Nat.le_of_ble_eq_true rfl, Nat.le_of_ble_eq_true rfl⟩) (zz_pS Z) rfl rfl hl.1 rfl (lv_room (Nat.le_of_ble_eq_true rfl)) dX7_rest_1 ⟨Nat.le_of_ble_eq_true rfl, Nat.le_of_ble_eq_true rfl⟩) (fun H5 lo6 Z7 => ?_)
  clear Z hc3
  refine lv_if_ne (tgt := 10) hx hb dX7_rest_4 (by decide) (fun b8 => ?_) (fun b8 => ?_)
  · have hf9 := zNot hf4 b8
    clear hf4
    refine lv_aload_n hx hb dX7_rest_10 rfl (lv_at hl 0 rfl) ?_
    refine zy_get (v := .ref (ad 7)) X Z7 mL_ok mk_0 rfl rfl (fun w h => List.mem_cons_of_mem _ (List.mem_append_right _ h)) 7 rfl (zz_m 2 rfl) rfl dX7_rest_11 ?_
    refine lv_iload_n hx hb dX7_rest_14 rfl (lv_at hl 1 rfl) ?_
    obtain ⟨⟨i10, j11⟩, hf12⟩ := zG hf9
    clear hf9
    refine zy_ild X Z7 mL_ok mk_7 ml_7 i10 dX7_rest_15 ?_
    refine lv_iconst (v := 3) hx hb dX7_rest_16 (by decide) ?_
    refine lv_icmp_eq (tgt := 38) hx hb dX7_rest_17 (by decide) (fun b13 => ?_) (fun b13 => ?_)
    · have hf14 := zYes hf12 b13
      clear hf12
      refine lv_iload_n hx hb dX7_rest_38 rfl (lv_at hl 2 rfl) ?_
      refine lv_if_ne (tgt := 48) hx hb dX7_rest_39 (by decide) (fun b15 => ?_) (fun b15 => ?_)
      · have hf16 := zNot hf14 b15
        clear hf14
        refine lv_aload_n hx hb dX7_rest_48 rfl (lv_at hl 0 rfl) ?_
        refine zy_get (v := .ref (ad 8)) X Z7 mL_ok mk_0 rfl rfl (fun w h => List.mem_cons_of_mem _ (List.mem_append_right _ h)) 8 rfl (zz_m 6 rfl) rfl dX7_rest_49 ?_
        refine lv_iload_n hx hb dX7_rest_52 rfl (lv_at hl 1 rfl) ?_
        refine zy_ild X Z7 mL_ok mk_8 ml_8 i10 dX7_rest_53 ?_
        refine lv_iload_n hx hb dX7_rest_54 rfl (lv_at hl 2 rfl) ?_
        obtain ⟨z17, hf18⟩ := zD hf16
        clear hf16
        refine lv_irem hx hb dX7_rest_55 z17 ?_
        exact zy_iret X hr hlk Z7 (zEnd hf18) dX7_rest_56
      · have hf19 := zYes hf14 b15
        clear hf14
        refine lv_ldcw (v := (-1000000002)) hx hb hown (hts _ (zz_m 5 rfl)) dX7_rest_42 ?_
        refine lv_goto (tgt := 56) hx hb dX7_rest_45 (by decide) ?_
        exact zy_iret X hr hlk Z7 (zEnd hf19) dX7_rest_56
    · have hf20 := zNot hf12 b13
      clear hf12
      refine lv_aload_n hx hb dX7_rest_20 rfl (lv_at hl 0 rfl) ?_
      refine zy_get (v := .ref (ad 7)) X Z7 mL_ok mk_0 rfl rfl (fun w h => List.mem_cons_of_mem _ (List.mem_append_right _ h)) 7 rfl (zz_m 2 rfl) rfl dX7_rest_21 ?_
      refine lv_iload_n hx hb dX7_rest_24 rfl (lv_at hl 1 rfl) ?_
      refine zy_ild X Z7 mL_ok mk_7 ml_7 i10 dX7_rest_25 ?_
      refine lv_if_ne (tgt := 35) hx hb dX7_rest_26 (by decide) (fun b21 => ?_) (fun b21 => ?_)
      · have hf22 := zNot hf20 b21
        clear hf20
        refine lv_ldc (v := (-1000000012)) hx hb hown (hts _ (zz_m 4 rfl)) dX7_rest_35 ?_
        exact zy_iret X hr hlk Z7 (zEnd hf22) dX7_rest_37
      · have hf23 := zYes hf20 b21
        clear hf20
        refine lv_ldcw (v := (-1000000011)) hx hb hown (hts _ (zz_m 3 rfl)) dX7_rest_29 ?_
        refine lv_goto (tgt := 37) hx hb dX7_rest_32 (by decide) ?_
        exact zy_iret X hr hlk Z7 (zEnd hf23) dX7_rest_37
  · have hf24 := zYes hf4 b8
    clear hf4
    refine lv_ldc (v := (-1000000001)) hx hb hown (hts _ (zz_m 1 rfl)) dX7_rest_7 ?_
    exact zy_iret X hr hlk Z7 (zEnd hf24) dX7_rest_9
def B_X7_rule_24 (a1 : Int32) (a2 : Int32) (y0 : Int64) (y1 : Int64) (σ : zg_S) : Option (Int32 × zg_S) := zbd (f_X7_mostOf a1 σ) (fun (r1 : Int32) (σ2 : zg_S) => zbd (f_X7_isIn y1 y0 (Int32.toInt64 r1) σ2) (fun (r8 : Int32) (σ9 : zg_S) => (if r8 = 0 then some ((-1000000001), σ9) else zbd (f_X7_becomes (7 + a1) a2 σ9) (fun (r17 : Int32) (σ18 : zg_S) => zbd (f_X7_holds σ18) (fun (r26 : Int32) (σ27 : zg_S) => some (r17, σ27))))))
def f_X7_rule (a1 : Int32) (a2 : Int32) (σ : zg_S) : Option (Int32 × zg_S) := zbd (f_X7_isIn (Int32.toInt64 a1) (Int32.toInt64 0) (Int32.toInt64 3) σ) (fun (r34 : Int32) (σ35 : zg_S) => (if r34 = 0 then some ((-1000000001), σ35) else (if a1 = 1 then B_X7_rule_24 a1 a2 (Int32.toInt64 1) (Int32.toInt64 a2) σ35 else B_X7_rule_24 a1 a2 (Int32.toInt64 0) (Int32.toInt64 a2) σ35)))
set_option maxHeartbeats 4000000 in
set_option maxRecDepth 100000 in
theorem c_X7_rule (l : Launch) (D : va_G) (V : zz_V) (ad : Nat → Nat) (cA : Nat → ClassId) (a1 : Int32) (a2 : Int32)  (σ : zg_S) (r0 : Int32) (σf : zg_S) (hf : f_X7_rule a1 a2 σ = some (r0, σf)) : zM_I l yX7_rule wsX7_rule 2 41 D V ML ad cA [.ref (ad 0), .int a1, .int a2] σ r0 σf := by
  intro sz
  refine Met.ofW (cc := cX7_rule) (maxL := 4) (ret := (some .int)) (by decide) rfl ?_
  intro p e s m args below meth c s₁ B hml hv
  obtain ⟨rfl, hC⟩ := hv
  have hx := B.exec
  have hb := B.bytes
  have hr := B.returns
  have hts := atoms_spec (ws := wsX7_rule) B.pre
  have hown : s.vm.findClass RX7 = some m.cls := findClass_of_methodNamed B.named
  have hlk := B.notSynchronized
  have X : CallFix p m c cX7_rule 4 s _ wsX7_rule RX7 := ⟨hx, hb, hml, hown, hts⟩
  have Z := zz_enter hC
  generalize va_A (zg_W ML ad cA σ) sz = A at Z ⊢
  have hl := lv_entry ([.ref (ad 0), .int a1, .int a2]) (n := 4) (Nat.le_of_ble_eq_true rfl)
  rw [lg_entry_eq]
  generalize (lg_sl ([.ref (ad 0), .int a1, .int a2]) ++ List.replicate (4 - (lg_sl ([.ref (ad 0), .int a1, .int a2])).length) Slot.unset).toArray = ls at hl ⊢
  have hl : lv_has ls 4 [(0, .ref (ad 0)), (1, .int a1), (2, .int a2)] := hl
  unfold f_X7_rule at hf
  have b24_ : ∀ (y0 : Int64) (y1 : Int64) (σ : zg_S), B_X7_rule_24 a1 a2 y0 y1 σ = some (r0, σf) → ∀ (H : Heap) (locs : List Loc) (ls : Array Slot), zz_S D V A s (zg_W ML ad cA σ) (zg_T ML cA) H locs → lv_has ls 4 [(0, .ref (ad 0)), (1, .int a1), (2, .int a2)] → W p l e (headSpec wsX7_rule { frames := 2, cells := 0, slots := 0, locals := 41 }).room s m (List.toArray [.ref (ad 0), .int a1, .int a2]) below meth c H locs 0 0 (MQ below (va_Qi (fun r (_ : Unit) => r = r0) (fun _ t => zz_B D A (zg_W ML ad cA σf) (zg_T ML cA) t) A) (List.toArray [.ref (ad 0), .int a1, .int a2]) s 0 0 A) (F0 m 24 ls [.long y0, .long y1]) := by
    intro y0 y1 σ hf24_ H24_ locs24_ ls24_ Z24_ hl24_
    unfold B_X7_rule_24 at hf24_
    refine lv_aload_n hx hb dX7_rule_24 rfl (lv_at hl24_ 0 rfl) ?_
    refine lv_iload_n hx hb dX7_rule_25 rfl (lv_at hl24_ 1 rfl) ?_
    obtain ⟨r1, σ2, hc3, hf4⟩ := zBd hf24_
    clear hf24_
    refine zy_ci (r0 := r1) (WS1 := zg_W ML ad cA σ2) (TYS1 := zg_T ML cA) Z24_ (va_runV (As := [.int a1]) (rest := [.long y0, .long y1]) X (c_X7_mostOf l D V ad cA a1 σ r1 σ2 hc3 H24_.size) (cwV 1 hts gX7_rule_X7_mostOf rfl rfl rfl ⟨rfl, zh_X7_mostOf⟩ ⟨Nat.le_of_ble_eq_true rfl, Nat.le_of_ble_eq_true rfl⟩) (zy_pV (ci := 7) Z24_ mL_ok mk_0 rfl rfl) rfl rfl hl24_.1 rfl (lv_room (Nat.le_of_ble_eq_true rfl)) dX7_rule_26 ⟨Nat.le_of_ble_eq_true rfl, Nat.le_of_ble_eq_true rfl⟩) (fun H5 lo6 Z7 => ?_)
    clear Z24_ hc3
    refine lv_i2l (v := Int32.toInt64 r1) hx hb dX7_rule_29 rfl ?_
    obtain ⟨r8, σ9, hc10, hf11⟩ := zBd hf4
    clear hf4
    refine zy_ci (r0 := r8) (WS1 := zg_W ML ad cA σ9) (TYS1 := zg_T ML cA) Z7 (va_runS (As := [.long y1, .long y0, .long (Int32.toInt64 r1)]) (rest := []) X (c_X7_isIn l D V ad cA y1 y0 (Int32.toInt64 r1) σ2 r8 σ9 hc10 H5.size) (va_cwS 3 hts gX7_rule_X7_isIn rfl rfl rfl zh_X7_isIn ⟨Nat.le_of_ble_eq_true rfl, Nat.le_of_ble_eq_true rfl⟩) (zz_pS Z7) rfl rfl hl24_.1 rfl (lv_room (Nat.le_of_ble_eq_true rfl)) dX7_rule_30 ⟨Nat.le_of_ble_eq_true rfl, Nat.le_of_ble_eq_true rfl⟩) (fun H12 lo13 Z14 => ?_)
    clear Z7 hc10
    refine lv_if_ne (tgt := 39) hx hb dX7_rule_33 (by decide) (fun b15 => ?_) (fun b15 => ?_)
    · have hf16 := zNot hf11 b15
      clear hf11
      refine lv_aload_n hx hb dX7_rule_39 rfl (lv_at hl24_ 0 rfl) ?_
      refine lv_bipush (v := 7) hx hb dX7_rule_40 (by decide) ?_
      refine lv_iload_n hx hb dX7_rule_42 rfl (lv_at hl24_ 1 rfl) ?_
      refine lv_iadd hx hb dX7_rule_43 ?_
      refine lv_iload_n hx hb dX7_rule_44 rfl (lv_at hl24_ 2 rfl) ?_
      obtain ⟨r17, σ18, hc19, hf20⟩ := zBd hf16
      clear hf16
      refine zy_ci (r0 := r17) (WS1 := zg_W ML ad cA σ18) (TYS1 := zg_T ML cA) Z14 (va_runV (As := [.int (7 + a1), .int a2]) (rest := []) X (c_X7_becomes l D V ad cA (7 + a1) a2 σ9 r17 σ18 hc19 H12.size) (cwV 2 hts gX7_rule_X7_becomes rfl rfl rfl ⟨rfl, zh_X7_becomes⟩ ⟨Nat.le_of_ble_eq_true rfl, Nat.le_of_ble_eq_true rfl⟩) (zy_pV (ci := 7) Z14 mL_ok mk_0 rfl rfl) rfl rfl hl24_.1 rfl (lv_room (Nat.le_of_ble_eq_true rfl)) dX7_rule_45 ⟨Nat.le_of_ble_eq_true rfl, Nat.le_of_ble_eq_true rfl⟩) (fun H21 lo22 Z23 => ?_)
      clear Z14 hc19
      refine lv_istore_n (lv' := [(3, .int r17), (0, .ref (ad 0)), (1, .int a1), (2, .int a2)]) hx hb dX7_rule_48 rfl hl24_ (by decide) rfl (fun ls25 hl24 => ?_)
      clear hl24_
      refine lv_aload_n hx hb dX7_rule_49 rfl (lv_at hl24 1 rfl) ?_
      obtain ⟨r26, σ27, hc28, hf29⟩ := zBd hf20
      clear hf20
      refine zy_cv (WS1 := zg_W ML ad cA σ27) (TYS1 := zg_T ML cA) Z23 (va_runV (As := []) (rest := []) X (c_X7_holds l D V ad cA  σ18 r26 σ27 hc28 H21.size) (cwV 0 hts gX7_rule_X7_holds rfl rfl rfl ⟨rfl, zh_X7_holds⟩ ⟨Nat.le_of_ble_eq_true rfl, Nat.le_of_ble_eq_true rfl⟩) (zy_pV (ci := 7) Z23 mL_ok mk_0 rfl rfl) rfl rfl hl24.1 rfl (lv_room (Nat.le_of_ble_eq_true rfl)) dX7_rule_50 ⟨Nat.le_of_ble_eq_true rfl, Nat.le_of_ble_eq_true rfl⟩) (fun H30 lo31 Z32 => ?_)
      clear Z23 hc28
      refine lv_iload_n hx hb dX7_rule_53 rfl (lv_at hl24 0 rfl) ?_
      exact zy_iret X hr hlk Z32 (zEnd hf29) dX7_rule_54
    · have hf33 := zYes hf11 b15
      clear hf11
      refine lv_ldc (v := (-1000000001)) hx hb hown (hts _ (zz_m 2 rfl)) dX7_rule_36 ?_
      exact zy_iret X hr hlk Z14 (zEnd hf33) dX7_rule_38
  refine lv_iload_n hx hb dX7_rule_0 rfl (lv_at hl 1 rfl) ?_
  refine lv_i2l (v := Int32.toInt64 a1) hx hb dX7_rule_1 rfl ?_
  refine lv_lconst (v := 0) hx hb dX7_rule_2 (by decide) ?_
  refine zz_vl (v := Int32.toInt64 0) (by decide) ?_
  refine lv_ldc2 (v := 3) hx hb hown (hts _ (zz_m 1 rfl)) dX7_rule_3 ?_
  refine zz_vl (v := Int32.toInt64 3) (by decide) ?_
  obtain ⟨r34, σ35, hc36, hf37⟩ := zBd hf
  clear hf
  refine zy_ci (r0 := r34) (WS1 := zg_W ML ad cA σ35) (TYS1 := zg_T ML cA) Z (va_runS (As := [.long (Int32.toInt64 a1), .long (Int32.toInt64 0), .long (Int32.toInt64 3)]) (rest := []) X (c_X7_isIn l D V ad cA (Int32.toInt64 a1) (Int32.toInt64 0) (Int32.toInt64 3) σ r34 σ35 hc36 s.heap.size) (va_cwS 3 hts gX7_rule_X7_isIn rfl rfl rfl zh_X7_isIn ⟨Nat.le_of_ble_eq_true rfl, Nat.le_of_ble_eq_true rfl⟩) (zz_pS Z) rfl rfl hl.1 rfl (lv_room (Nat.le_of_ble_eq_true rfl)) dX7_rule_6 ⟨Nat.le_of_ble_eq_true rfl, Nat.le_of_ble_eq_true rfl⟩) (fun H38 lo39 Z40 => ?_)
  clear Z hc36
  refine lv_if_eq (tgt := 36) hx hb dX7_rule_9 (by decide) (fun b41 => ?_) (fun b41 => ?_)
  · have hf42 := zYes hf37 b41
    clear hf37
    refine lv_ldc (v := (-1000000001)) hx hb hown (hts _ (zz_m 2 rfl)) dX7_rule_36 ?_
    exact zy_iret X hr hlk Z40 (zEnd hf42) dX7_rule_38
  · have hf43 := zNot hf37 b41
    clear hf37
    refine lv_iload_n hx hb dX7_rule_12 rfl (lv_at hl 2 rfl) ?_
    refine lv_i2l (v := Int32.toInt64 a2) hx hb dX7_rule_13 rfl ?_
    refine lv_iload_n hx hb dX7_rule_14 rfl (lv_at hl 1 rfl) ?_
    refine lv_iconst (v := 1) hx hb dX7_rule_15 (by decide) ?_
    refine lv_icmp_ne (tgt := 23) hx hb dX7_rule_16 (by decide) (fun b44 => ?_) (fun b44 => ?_)
    · have hf45 := zNot hf43 b44
      clear hf43
      refine lv_lconst (v := 0) hx hb dX7_rule_23 (by decide) ?_
      refine zz_vl (v := Int32.toInt64 0) (by decide) ?_
      exact b24_ (Int32.toInt64 0) (Int32.toInt64 a2) σ35 hf45 _ _ _ Z40 (lv_sub hl [0, 1, 2] rfl)
    · have hf46 := zYes hf43 b44
      clear hf43
      refine lv_lconst (v := 1) hx hb dX7_rule_19 (by decide) ?_
      refine zz_vl (v := Int32.toInt64 1) (by decide) ?_
      refine lv_goto (tgt := 24) hx hb dX7_rule_20 (by decide) ?_
      exact b24_ (Int32.toInt64 1) (Int32.toInt64 a2) σ35 hf46 _ _ _ Z40 (lv_sub hl [0, 1, 2] rfl)
def f_X7_seed (a1 : Int32) (σ : zg_S) : Option (Int32 × zg_S) := zbd (f_X7_becomes 6 a1 σ) (fun (r1 : Int32) (σ2 : zg_S) => some (r1, σ2))
set_option maxHeartbeats 4000000 in
set_option maxRecDepth 100000 in
theorem c_X7_seed (l : Launch) (D : va_G) (V : zz_V) (ad : Nat → Nat) (cA : Nat → ClassId) (a1 : Int32)  (σ : zg_S) (r0 : Int32) (σf : zg_S) (hf : f_X7_seed a1 σ = some (r0, σf)) : zM_I l yX7_seed wsX7_seed 1 23 D V ML ad cA [.ref (ad 0), .int a1] σ r0 σf := by
  intro sz
  refine Met.ofW (cc := cX7_seed) (maxL := 2) (ret := (some .int)) (by decide) rfl ?_
  intro p e s m args below meth c s₁ B hml hv
  obtain ⟨rfl, hC⟩ := hv
  have hx := B.exec
  have hb := B.bytes
  have hr := B.returns
  have hts := atoms_spec (ws := wsX7_seed) B.pre
  have hown : s.vm.findClass RX7 = some m.cls := findClass_of_methodNamed B.named
  have hlk := B.notSynchronized
  have X : CallFix p m c cX7_seed 2 s _ wsX7_seed RX7 := ⟨hx, hb, hml, hown, hts⟩
  have Z := zz_enter hC
  generalize va_A (zg_W ML ad cA σ) sz = A at Z ⊢
  have hl := lv_entry ([.ref (ad 0), .int a1]) (n := 2) (Nat.le_of_ble_eq_true rfl)
  rw [lg_entry_eq]
  generalize (lg_sl ([.ref (ad 0), .int a1]) ++ List.replicate (2 - (lg_sl ([.ref (ad 0), .int a1])).length) Slot.unset).toArray = ls at hl ⊢
  have hl : lv_has ls 2 [(0, .ref (ad 0)), (1, .int a1)] := hl
  unfold f_X7_seed at hf
  refine lv_aload_n hx hb dX7_seed_0 rfl (lv_at hl 0 rfl) ?_
  refine lv_bipush (v := 6) hx hb dX7_seed_1 (by decide) ?_
  refine lv_iload_n hx hb dX7_seed_3 rfl (lv_at hl 1 rfl) ?_
  obtain ⟨r1, σ2, hc3, hf4⟩ := zBd hf
  clear hf
  refine zy_ci (r0 := r1) (WS1 := zg_W ML ad cA σ2) (TYS1 := zg_T ML cA) Z (va_runV (As := [.int 6, .int a1]) (rest := []) X (c_X7_becomes l D V ad cA 6 a1 σ r1 σ2 hc3 s.heap.size) (cwV 2 hts gX7_seed_X7_becomes rfl rfl rfl ⟨rfl, zh_X7_becomes⟩ ⟨Nat.le_of_ble_eq_true rfl, Nat.le_of_ble_eq_true rfl⟩) (zy_pV (ci := 7) Z mL_ok mk_0 rfl rfl) rfl rfl hl.1 rfl (lv_room (Nat.le_of_ble_eq_true rfl)) dX7_seed_4 ⟨Nat.le_of_ble_eq_true rfl, Nat.le_of_ble_eq_true rfl⟩) (fun H5 lo6 Z7 => ?_)
  clear Z hc3
  exact zy_iret X hr hlk Z7 (zEnd hf4) dX7_seed_7
def B_X7_set_48 (a1 : Int32) (a2 : Int32) (a3 : Int32) (y0 : Int64) (y1 : Int64) (y2 : Int64) (σ : zg_S) : Option (Int32 × zg_S) := zbd (f_X7_isIn y2 y1 y0 σ) (fun (r1 : Int32) (σ2 : zg_S) => (if r1 = 0 then some ((-1000000001), σ2) else zbd (f_X7_becomes ((11 + (4 * a1)) + a2) a3 σ2) (fun (r10 : Int32) (σ11 : zg_S) => some (r10, σ11))))
def f_X7_set (a1 : Int32) (a2 : Int32) (a3 : Int32) (σ : zg_S) : Option (Int32 × zg_S) := zbd (f_X7_isStall a1 σ) (fun (r18 : Int32) (σ19 : zg_S) => (if r18 = 0 then some ((-1000000001), σ19) else zbd (f_X7_isIn (Int32.toInt64 a2) (Int32.toInt64 1) (Int32.toInt64 3) σ19) (fun (r28 : Int32) (σ29 : zg_S) => (if r28 = 0 then some ((-1000000001), σ29) else (if a2 = 1 then B_X7_set_48 a1 a2 a3 (Int32.toInt64 11) (Int32.toInt64 0) (Int32.toInt64 a3) σ29 else (if a2 = 2 then B_X7_set_48 a1 a2 a3 (Int32.toInt64 999) (Int32.toInt64 0) (Int32.toInt64 a3) σ29 else B_X7_set_48 a1 a2 a3 (Int32.toInt64 99) (Int32.toInt64 0) (Int32.toInt64 a3) σ29))))))
set_option maxHeartbeats 4000000 in
set_option maxRecDepth 100000 in
theorem c_X7_set (l : Launch) (D : va_G) (V : zz_V) (ad : Nat → Nat) (cA : Nat → ClassId) (a1 : Int32) (a2 : Int32) (a3 : Int32)  (σ : zg_S) (r0 : Int32) (σf : zg_S) (hf : f_X7_set a1 a2 a3 σ = some (r0, σf)) : zM_I l yX7_set wsX7_set 2 46 D V ML ad cA [.ref (ad 0), .int a1, .int a2, .int a3] σ r0 σf := by
  intro sz
  refine Met.ofW (cc := cX7_set) (maxL := 4) (ret := (some .int)) (by decide) rfl ?_
  intro p e s m args below meth c s₁ B hml hv
  obtain ⟨rfl, hC⟩ := hv
  have hx := B.exec
  have hb := B.bytes
  have hr := B.returns
  have hts := atoms_spec (ws := wsX7_set) B.pre
  have hown : s.vm.findClass RX7 = some m.cls := findClass_of_methodNamed B.named
  have hlk := B.notSynchronized
  have X : CallFix p m c cX7_set 4 s _ wsX7_set RX7 := ⟨hx, hb, hml, hown, hts⟩
  have Z := zz_enter hC
  generalize va_A (zg_W ML ad cA σ) sz = A at Z ⊢
  have hl := lv_entry ([.ref (ad 0), .int a1, .int a2, .int a3]) (n := 4) (Nat.le_of_ble_eq_true rfl)
  rw [lg_entry_eq]
  generalize (lg_sl ([.ref (ad 0), .int a1, .int a2, .int a3]) ++ List.replicate (4 - (lg_sl ([.ref (ad 0), .int a1, .int a2, .int a3])).length) Slot.unset).toArray = ls at hl ⊢
  have hl : lv_has ls 4 [(0, .ref (ad 0)), (1, .int a1), (2, .int a2), (3, .int a3)] := hl
  unfold f_X7_set at hf
  have b48_ : ∀ (y0 : Int64) (y1 : Int64) (y2 : Int64) (σ : zg_S), B_X7_set_48 a1 a2 a3 y0 y1 y2 σ = some (r0, σf) → ∀ (H : Heap) (locs : List Loc) (ls : Array Slot), zz_S D V A s (zg_W ML ad cA σ) (zg_T ML cA) H locs → lv_has ls 4 [(0, .ref (ad 0)), (1, .int a1), (2, .int a2), (3, .int a3)] → W p l e (headSpec wsX7_set { frames := 2, cells := 0, slots := 0, locals := 46 }).room s m (List.toArray [.ref (ad 0), .int a1, .int a2, .int a3]) below meth c H locs 0 0 (MQ below (va_Qi (fun r (_ : Unit) => r = r0) (fun _ t => zz_B D A (zg_W ML ad cA σf) (zg_T ML cA) t) A) (List.toArray [.ref (ad 0), .int a1, .int a2, .int a3]) s 0 0 A) (F0 m 48 ls [.long y0, .long y1, .long y2]) := by
    intro y0 y1 y2 σ hf48_ H48_ locs48_ ls48_ Z48_ hl48_
    unfold B_X7_set_48 at hf48_
    obtain ⟨r1, σ2, hc3, hf4⟩ := zBd hf48_
    clear hf48_
    refine zy_ci (r0 := r1) (WS1 := zg_W ML ad cA σ2) (TYS1 := zg_T ML cA) Z48_ (va_runS (As := [.long y2, .long y1, .long y0]) (rest := []) X (c_X7_isIn l D V ad cA y2 y1 y0 σ r1 σ2 hc3 H48_.size) (va_cwS 3 hts gX7_set_X7_isIn rfl rfl rfl zh_X7_isIn ⟨Nat.le_of_ble_eq_true rfl, Nat.le_of_ble_eq_true rfl⟩) (zz_pS Z48_) rfl rfl hl48_.1 rfl (lv_room (Nat.le_of_ble_eq_true rfl)) dX7_set_48 ⟨Nat.le_of_ble_eq_true rfl, Nat.le_of_ble_eq_true rfl⟩) (fun H5 lo6 Z7 => ?_)
    clear Z48_ hc3
    refine lv_if_ne (tgt := 57) hx hb dX7_set_51 (by decide) (fun b8 => ?_) (fun b8 => ?_)
    · have hf9 := zNot hf4 b8
      clear hf4
      refine lv_aload_n hx hb dX7_set_57 rfl (lv_at hl48_ 0 rfl) ?_
      refine lv_bipush (v := 11) hx hb dX7_set_58 (by decide) ?_
      refine lv_iconst (v := 4) hx hb dX7_set_60 (by decide) ?_
      refine lv_iload_n hx hb dX7_set_61 rfl (lv_at hl48_ 1 rfl) ?_
      refine lv_imul hx hb dX7_set_62 ?_
      refine lv_iadd hx hb dX7_set_63 ?_
      refine lv_iload_n hx hb dX7_set_64 rfl (lv_at hl48_ 2 rfl) ?_
      refine lv_iadd hx hb dX7_set_65 ?_
      refine lv_iload_n hx hb dX7_set_66 rfl (lv_at hl48_ 3 rfl) ?_
      obtain ⟨r10, σ11, hc12, hf13⟩ := zBd hf9
      clear hf9
      refine zy_ci (r0 := r10) (WS1 := zg_W ML ad cA σ11) (TYS1 := zg_T ML cA) Z7 (va_runV (As := [.int ((11 + (4 * a1)) + a2), .int a3]) (rest := []) X (c_X7_becomes l D V ad cA ((11 + (4 * a1)) + a2) a3 σ2 r10 σ11 hc12 H5.size) (cwV 2 hts gX7_set_X7_becomes rfl rfl rfl ⟨rfl, zh_X7_becomes⟩ ⟨Nat.le_of_ble_eq_true rfl, Nat.le_of_ble_eq_true rfl⟩) (zy_pV (ci := 7) Z7 mL_ok mk_0 rfl rfl) rfl rfl hl48_.1 rfl (lv_room (Nat.le_of_ble_eq_true rfl)) dX7_set_67 ⟨Nat.le_of_ble_eq_true rfl, Nat.le_of_ble_eq_true rfl⟩) (fun H14 lo15 Z16 => ?_)
      clear Z7 hc12
      exact zy_iret X hr hlk Z16 (zEnd hf13) dX7_set_70
    · have hf17 := zYes hf4 b8
      clear hf4
      refine lv_ldc (v := (-1000000001)) hx hb hown (hts _ (zz_m 5 rfl)) dX7_set_54 ?_
      exact zy_iret X hr hlk Z7 (zEnd hf17) dX7_set_56
  refine lv_aload_n hx hb dX7_set_0 rfl (lv_at hl 0 rfl) ?_
  refine lv_iload_n hx hb dX7_set_1 rfl (lv_at hl 1 rfl) ?_
  obtain ⟨r18, σ19, hc20, hf21⟩ := zBd hf
  clear hf
  refine zy_ci (r0 := r18) (WS1 := zg_W ML ad cA σ19) (TYS1 := zg_T ML cA) Z (va_runV (As := [.int a1]) (rest := []) X (c_X7_isStall l D V ad cA a1 σ r18 σ19 hc20 s.heap.size) (cwV 1 hts gX7_set_X7_isStall rfl rfl rfl ⟨rfl, zh_X7_isStall⟩ ⟨Nat.le_of_ble_eq_true rfl, Nat.le_of_ble_eq_true rfl⟩) (zy_pV (ci := 7) Z mL_ok mk_0 rfl rfl) rfl rfl hl.1 rfl (lv_room (Nat.le_of_ble_eq_true rfl)) dX7_set_2 ⟨Nat.le_of_ble_eq_true rfl, Nat.le_of_ble_eq_true rfl⟩) (fun H22 lo23 Z24 => ?_)
  clear Z hc20
  refine lv_if_eq (tgt := 54) hx hb dX7_set_5 (by decide) (fun b25 => ?_) (fun b25 => ?_)
  · have hf26 := zYes hf21 b25
    clear hf21
    refine lv_ldc (v := (-1000000001)) hx hb hown (hts _ (zz_m 5 rfl)) dX7_set_54 ?_
    exact zy_iret X hr hlk Z24 (zEnd hf26) dX7_set_56
  · have hf27 := zNot hf21 b25
    clear hf21
    refine lv_iload_n hx hb dX7_set_8 rfl (lv_at hl 2 rfl) ?_
    refine lv_i2l (v := Int32.toInt64 a2) hx hb dX7_set_9 rfl ?_
    refine lv_lconst (v := 1) hx hb dX7_set_10 (by decide) ?_
    refine zz_vl (v := Int32.toInt64 1) (by decide) ?_
    refine lv_ldc2 (v := 3) hx hb hown (hts _ (zz_m 1 rfl)) dX7_set_11 ?_
    refine zz_vl (v := Int32.toInt64 3) (by decide) ?_
    obtain ⟨r28, σ29, hc30, hf31⟩ := zBd hf27
    clear hf27
    refine zy_ci (r0 := r28) (WS1 := zg_W ML ad cA σ29) (TYS1 := zg_T ML cA) Z24 (va_runS (As := [.long (Int32.toInt64 a2), .long (Int32.toInt64 1), .long (Int32.toInt64 3)]) (rest := []) X (c_X7_isIn l D V ad cA (Int32.toInt64 a2) (Int32.toInt64 1) (Int32.toInt64 3) σ19 r28 σ29 hc30 H22.size) (va_cwS 3 hts gX7_set_X7_isIn rfl rfl rfl zh_X7_isIn ⟨Nat.le_of_ble_eq_true rfl, Nat.le_of_ble_eq_true rfl⟩) (zz_pS Z24) rfl rfl hl.1 rfl (lv_room (Nat.le_of_ble_eq_true rfl)) dX7_set_14 ⟨Nat.le_of_ble_eq_true rfl, Nat.le_of_ble_eq_true rfl⟩) (fun H32 lo33 Z34 => ?_)
    clear Z24 hc30
    refine lv_if_eq (tgt := 54) hx hb dX7_set_17 (by decide) (fun b35 => ?_) (fun b35 => ?_)
    · have hf36 := zYes hf31 b35
      clear hf31
      refine lv_ldc (v := (-1000000001)) hx hb hown (hts _ (zz_m 5 rfl)) dX7_set_54 ?_
      exact zy_iret X hr hlk Z34 (zEnd hf36) dX7_set_56
    · have hf37 := zNot hf31 b35
      clear hf31
      refine lv_iload_n hx hb dX7_set_20 rfl (lv_at hl 3 rfl) ?_
      refine lv_i2l (v := Int32.toInt64 a3) hx hb dX7_set_21 rfl ?_
      refine lv_lconst (v := 0) hx hb dX7_set_22 (by decide) ?_
      refine zz_vl (v := Int32.toInt64 0) (by decide) ?_
      refine lv_iload_n hx hb dX7_set_23 rfl (lv_at hl 2 rfl) ?_
      refine lv_iconst (v := 1) hx hb dX7_set_24 (by decide) ?_
      refine lv_icmp_ne (tgt := 34) hx hb dX7_set_25 (by decide) (fun b38 => ?_) (fun b38 => ?_)
      · have hf39 := zNot hf37 b38
        clear hf37
        refine lv_iload_n hx hb dX7_set_34 rfl (lv_at hl 2 rfl) ?_
        refine lv_iconst (v := 2) hx hb dX7_set_35 (by decide) ?_
        refine lv_icmp_ne (tgt := 45) hx hb dX7_set_36 (by decide) (fun b40 => ?_) (fun b40 => ?_)
        · have hf41 := zNot hf39 b40
          clear hf39
          refine lv_ldc2 (v := 99) hx hb hown (hts _ (zz_m 4 rfl)) dX7_set_45 ?_
          refine zz_vl (v := Int32.toInt64 99) (by decide) ?_
          exact b48_ (Int32.toInt64 99) (Int32.toInt64 0) (Int32.toInt64 a3) σ29 hf41 _ _ _ Z34 (lv_sub hl [0, 1, 2, 3] rfl)
        · have hf42 := zYes hf39 b40
          clear hf39
          refine lv_ldc2 (v := 999) hx hb hown (hts _ (zz_m 3 rfl)) dX7_set_39 ?_
          refine zz_vl (v := Int32.toInt64 999) (by decide) ?_
          refine lv_goto (tgt := 48) hx hb dX7_set_42 (by decide) ?_
          exact b48_ (Int32.toInt64 999) (Int32.toInt64 0) (Int32.toInt64 a3) σ29 hf42 _ _ _ Z34 (lv_sub hl [0, 1, 2, 3] rfl)
      · have hf43 := zYes hf37 b38
        clear hf37
        refine lv_ldc2 (v := 11) hx hb hown (hts _ (zz_m 2 rfl)) dX7_set_28 ?_
        refine zz_vl (v := Int32.toInt64 11) (by decide) ?_
        refine lv_goto (tgt := 48) hx hb dX7_set_31 (by decide) ?_
        exact b48_ (Int32.toInt64 11) (Int32.toInt64 0) (Int32.toInt64 a3) σ29 hf43 _ _ _ Z34 (lv_sub hl [0, 1, 2, 3] rfl)
def B_X7_shaded_83 (a1 : Int32) (a2 : Int32) (rec32_ : Int32 → Int32 → zg_S → Option (Int32 × zg_S)) (x4 : Int32) (x5 : Int32) (x6 : Int32) (y0 : Int32) (y1 : Int32) (σ : zg_S) : Option (Int32 × zg_S) := zlet (zg_up σ 1 7 x5) (fun (σ3 : zg_S) => zbd (f_X7_goesOnBy x6 σ3) (fun (r9 : Int32) (σ10 : zg_S) => rec32_ (y1 + y0) (x4 + 1) σ10))
def B_X7_shaded_32 (a1 : Int32) (a2 : Int32) (rec32_ : Int32 → Int32 → zg_S → Option (Int32 × zg_S)) (x3 : Int32) (x4 : Int32) (σ : zg_S) : Option (Int32 × zg_S) := (if a2 ≤ x4 then zbd (f_X7_laysBack σ) (fun (r20 : Int32) (σ21 : zg_S) => some (x3, σ21)) else zbd (f_X7_hauls σ) (fun (r30 : Int32) (σ31 : zg_S) => zlet (zg_up σ31 1 7 ((σ31 1 7) + r30)) (fun (σ39 : zg_S) => zbd (f_X7_holds σ39) (fun (r45 : Int32) (σ46 : zg_S) => zbd (f_X7_isShaded a1 σ46) (fun (r52 : Int32) (σ53 : zg_S) => (if r52 = 0 then B_X7_shaded_83 a1 a2 rec32_ x4 (σ 1 7) r30 0 x3 σ53 else B_X7_shaded_83 a1 a2 rec32_ x4 (σ 1 7) r30 1 x3 σ53))))))
def L_X7_shaded_32 (a1 : Int32) (a2 : Int32) : Nat → Int32 → Int32 → zg_S → Option (Int32 × zg_S) := zfix (fun _ _ _ => none) (B_X7_shaded_32 a1 a2)
def f_X7_shaded (a1 : Int32) (a2 : Int32) (σ : zg_S) : Option (Int32 × zg_S) := zbd (f_X7_isStall a1 σ) (fun (r62 : Int32) (σ63 : zg_S) => (if r62 = 0 then some ((-1000000001), σ63) else zbd (f_X7_isIn (Int32.toInt64 a2) (Int32.toInt64 1) (Int32.toInt64 60) σ63) (fun (r72 : Int32) (σ73 : zg_S) => (if r72 = 0 then some ((-1000000001), σ73) else zbd (f_X7_laysBy σ73) (fun (r81 : Int32) (σ82 : zg_S) => L_X7_shaded_32 a1 a2 zfu 0 0 σ82)))))
set_option maxHeartbeats 4000000 in
set_option maxRecDepth 100000 in
theorem c_X7_shaded (l : Launch) (D : va_G) (V : zz_V) (ad : Nat → Nat) (cA : Nat → ClassId) (a1 : Int32) (a2 : Int32)  (σ : zg_S) (r0 : Int32) (σf : zg_S) (hf : f_X7_shaded a1 a2 σ = some (r0, σf)) : zM_I l yX7_shaded wsX7_shaded 5 114 D V ML ad cA [.ref (ad 0), .int a1, .int a2] σ r0 σf := by
  intro sz
  refine Met.ofW (cc := cX7_shaded) (maxL := 7) (ret := (some .int)) (by decide) rfl ?_
  intro p e s m args below meth c s₁ B hml hv
  obtain ⟨rfl, hC⟩ := hv
  have hx := B.exec
  have hb := B.bytes
  have hr := B.returns
  have hts := atoms_spec (ws := wsX7_shaded) B.pre
  have hown : s.vm.findClass RX7 = some m.cls := findClass_of_methodNamed B.named
  have hlk := B.notSynchronized
  have X : CallFix p m c cX7_shaded 7 s _ wsX7_shaded RX7 := ⟨hx, hb, hml, hown, hts⟩
  have Z := zz_enter hC
  generalize va_A (zg_W ML ad cA σ) sz = A at Z ⊢
  have hl := lv_entry ([.ref (ad 0), .int a1, .int a2]) (n := 7) (Nat.le_of_ble_eq_true rfl)
  rw [lg_entry_eq]
  generalize (lg_sl ([.ref (ad 0), .int a1, .int a2]) ++ List.replicate (7 - (lg_sl ([.ref (ad 0), .int a1, .int a2])).length) Slot.unset).toArray = ls at hl ⊢
  have hl : lv_has ls 7 [(0, .ref (ad 0)), (1, .int a1), (2, .int a2)] := hl
  unfold f_X7_shaded at hf
  have b32_ : ∀ (k32_ : Nat) (x3 : Int32) (x4 : Int32) (σ : zg_S), L_X7_shaded_32 a1 a2 k32_ x3 x4 σ = some (r0, σf) → ∀ (H : Heap) (locs : List Loc) (ls : Array Slot), zz_S D V A s (zg_W ML ad cA σ) (zg_T ML cA) H locs → lv_has ls 7 [(0, .ref (ad 0)), (1, .int a1), (2, .int a2), (3, .int x3), (4, .int x4)] → W p l e (headSpec wsX7_shaded { frames := 5, cells := 0, slots := 0, locals := 114 }).room s m (List.toArray [.ref (ad 0), .int a1, .int a2]) below meth c H locs 0 0 (MQ below (va_Qi (fun r (_ : Unit) => r = r0) (fun _ t => zz_B D A (zg_W ML ad cA σf) (zg_T ML cA) t) A) (List.toArray [.ref (ad 0), .int a1, .int a2]) s 0 0 A) (F0 m 32 ls []) := by
    intro k32_
    induction k32_ with
    | zero =>
        intro x3 x4 σ hf32_ H32_ locs32_ ls32_ Z32_ hl32_
        exact zNone hf32_
    | succ k32_ ih32_ =>
        intro x3 x4 σ hf32_ H32_ locs32_ ls32_ Z32_ hl32_
        replace hf32_ : B_X7_shaded_32 a1 a2 (L_X7_shaded_32 a1 a2 k32_) x3 x4 σ = some (r0, σf) := hf32_
        unfold B_X7_shaded_32 at hf32_
        have b83_ : ∀ (x4 : Int32) (x5 : Int32) (x6 : Int32) (y0 : Int32) (y1 : Int32) (σ : zg_S), B_X7_shaded_83 a1 a2 (L_X7_shaded_32 a1 a2 k32_) x4 x5 x6 y0 y1 σ = some (r0, σf) → ∀ (H : Heap) (locs : List Loc) (ls : Array Slot), zz_S D V A s (zg_W ML ad cA σ) (zg_T ML cA) H locs → lv_has ls 7 [(0, .ref (ad 0)), (1, .int a1), (2, .int a2), (4, .int x4), (5, .int x5), (6, .int x6)] → W p l e (headSpec wsX7_shaded { frames := 5, cells := 0, slots := 0, locals := 114 }).room s m (List.toArray [.ref (ad 0), .int a1, .int a2]) below meth c H locs 0 0 (MQ below (va_Qi (fun r (_ : Unit) => r = r0) (fun _ t => zz_B D A (zg_W ML ad cA σf) (zg_T ML cA) t) A) (List.toArray [.ref (ad 0), .int a1, .int a2]) s 0 0 A) (F0 m 83 ls [.int y0, .int y1]) := by
          intro x4 x5 x6 y0 y1 σ hf83_ H83_ locs83_ ls83_ Z83_ hl83_
          unfold B_X7_shaded_83 at hf83_
          refine lv_iadd hx hb dX7_shaded_83 ?_
          refine lv_istore_n (lv' := [(3, .int (y1 + y0)), (0, .ref (ad 0)), (1, .int a1), (2, .int a2), (4, .int x4), (5, .int x5), (6, .int x6)]) hx hb dX7_shaded_84 rfl hl83_ (by decide) rfl (fun ls2 hl1 => ?_)
          clear hl83_
          refine lv_aload_n hx hb dX7_shaded_85 rfl (lv_at hl1 1 rfl) ?_
          refine zy_get (v := .ref (ad 1)) X Z83_ mL_ok mk_0 rfl rfl (fun w h => List.mem_cons_of_mem _ (List.mem_append_right _ h)) 0 rfl (zz_m 3 rfl) rfl dX7_shaded_86 ?_
          refine lv_bipush (v := 7) hx hb dX7_shaded_89 (by decide) ?_
          refine lv_iload hx hb dX7_shaded_91 (lv_at hl1 5 rfl) ?_
          obtain ⟨σ3, es4, hf5⟩ := zLet hf83_
          clear hf83_
          refine zy_ist (σ' := σ3) X Z83_ mL_ok mk_1 ml_1 (zz_in 7 3047 rfl) es4 dX7_shaded_93 (fun H6 lo7 Z8 => ?_)
          clear Z83_ es4
          refine lv_aload_n hx hb dX7_shaded_94 rfl (lv_at hl1 1 rfl) ?_
          refine lv_iload hx hb dX7_shaded_95 (lv_at hl1 6 rfl) ?_
          obtain ⟨r9, σ10, hc11, hf12⟩ := zBd hf5
          clear hf5
          refine zy_cv (WS1 := zg_W ML ad cA σ10) (TYS1 := zg_T ML cA) Z8 (va_runV (As := [.int x6]) (rest := []) X (c_X7_goesOnBy l D V ad cA x6 σ3 r9 σ10 hc11 H6.size) (cwV 1 hts gX7_shaded_X7_goesOnBy rfl rfl rfl ⟨rfl, zh_X7_goesOnBy⟩ ⟨Nat.le_of_ble_eq_true rfl, Nat.le_of_ble_eq_true rfl⟩) (zy_pV (ci := 7) Z8 mL_ok mk_0 rfl rfl) rfl rfl hl1.1 rfl (lv_room (Nat.le_of_ble_eq_true rfl)) dX7_shaded_97 ⟨Nat.le_of_ble_eq_true rfl, Nat.le_of_ble_eq_true rfl⟩) (fun H13 lo14 Z15 => ?_)
          clear Z8 hc11
          refine lv_iinc (v := (x4 + 1)) (lv' := [(4, .int (x4 + 1)), (3, .int (y1 + y0)), (0, .ref (ad 0)), (1, .int a1), (2, .int a2), (5, .int x5), (6, .int x6)]) hx hb dX7_shaded_100 hl1 (k := 4) rfl rfl (by decide) rfl (fun ls17 hl16 => ?_)
          clear hl1
          refine lv_goto (tgt := 32) hx hb dX7_shaded_103 (by decide) ?_
          exact ih32_ (y1 + y0) (x4 + 1) σ10 hf12 _ _ _ Z15 (lv_sub hl16 [2, 3, 4, 1, 0] rfl)
        refine lv_iload hx hb dX7_shaded_32 (lv_at hl32_ 4 rfl) ?_
        refine lv_iload_n hx hb dX7_shaded_34 rfl (lv_at hl32_ 2 rfl) ?_
        refine lv_icmp_ge (tgt := 106) hx hb dX7_shaded_35 (by decide) (fun b18 => ?_) (fun b18 => ?_)
        · have hf19 := zYes hf32_ b18
          clear hf32_
          refine lv_aload_n hx hb dX7_shaded_106 rfl (lv_at hl32_ 0 rfl) ?_
          obtain ⟨r20, σ21, hc22, hf23⟩ := zBd hf19
          clear hf19
          refine zy_cv (WS1 := zg_W ML ad cA σ21) (TYS1 := zg_T ML cA) Z32_ (va_runV (As := []) (rest := []) X (c_X7_laysBack l D V ad cA  σ r20 σ21 hc22 H32_.size) (cwV 0 hts gX7_shaded_X7_laysBack rfl rfl rfl ⟨rfl, zh_X7_laysBack⟩ ⟨Nat.le_of_ble_eq_true rfl, Nat.le_of_ble_eq_true rfl⟩) (zy_pV (ci := 7) Z32_ mL_ok mk_0 rfl rfl) rfl rfl hl32_.1 rfl (lv_room (Nat.le_of_ble_eq_true rfl)) dX7_shaded_107 ⟨Nat.le_of_ble_eq_true rfl, Nat.le_of_ble_eq_true rfl⟩) (fun H24 lo25 Z26 => ?_)
          clear Z32_ hc22
          refine lv_iload_n hx hb dX7_shaded_110 rfl (lv_at hl32_ 3 rfl) ?_
          exact zy_iret X hr hlk Z26 (zEnd hf23) dX7_shaded_111
        · have hf27 := zNot hf32_ b18
          clear hf32_
          refine lv_aload_n hx hb dX7_shaded_38 rfl (lv_at hl32_ 0 rfl) ?_
          refine zy_get (v := .ref (ad 1)) X Z32_ mL_ok mk_0 rfl rfl (fun w h => List.mem_cons_of_mem _ (List.mem_append_right _ h)) 0 rfl (zz_m 3 rfl) rfl dX7_shaded_39 ?_
          refine lv_bipush (v := 7) hx hb dX7_shaded_42 (by decide) ?_
          refine zy_ild X Z32_ mL_ok mk_1 ml_1 (zz_in 7 3047 rfl) dX7_shaded_44 ?_
          refine zz_v (v := σ 1 7) rfl ?_
          refine lv_istore (lv' := [(5, .int (σ 1 7)), (0, .ref (ad 0)), (1, .int a1), (2, .int a2), (3, .int x3), (4, .int x4)]) hx hb dX7_shaded_45 hl32_ (by decide) rfl (fun ls29 hl28 => ?_)
          clear hl32_
          refine lv_aload_n hx hb dX7_shaded_47 rfl (lv_at hl28 1 rfl) ?_
          obtain ⟨r30, σ31, hc32, hf33⟩ := zBd hf27
          clear hf27
          refine zy_ci (r0 := r30) (WS1 := zg_W ML ad cA σ31) (TYS1 := zg_T ML cA) Z32_ (va_runV (As := []) (rest := []) X (c_X7_hauls l D V ad cA  σ r30 σ31 hc32 H32_.size) (cwV 0 hts gX7_shaded_X7_hauls rfl rfl rfl ⟨rfl, zh_X7_hauls⟩ ⟨Nat.le_of_ble_eq_true rfl, Nat.le_of_ble_eq_true rfl⟩) (zy_pV (ci := 7) Z32_ mL_ok mk_0 rfl rfl) rfl rfl hl28.1 rfl (lv_room (Nat.le_of_ble_eq_true rfl)) dX7_shaded_48 ⟨Nat.le_of_ble_eq_true rfl, Nat.le_of_ble_eq_true rfl⟩) (fun H34 lo35 Z36 => ?_)
          clear Z32_ hc32
          refine lv_istore (lv' := [(6, .int r30), (5, .int (σ 1 7)), (0, .ref (ad 0)), (1, .int a1), (2, .int a2), (3, .int x3), (4, .int x4)]) hx hb dX7_shaded_51 hl28 (by decide) rfl (fun ls38 hl37 => ?_)
          clear hl28
          refine lv_aload_n hx hb dX7_shaded_53 rfl (lv_at hl37 2 rfl) ?_
          refine zy_get (v := .ref (ad 1)) X Z36 mL_ok mk_0 rfl rfl (fun w h => List.mem_cons_of_mem _ (List.mem_append_right _ h)) 0 rfl (zz_m 3 rfl) rfl dX7_shaded_54 ?_
          refine lv_bipush (v := 7) hx hb dX7_shaded_57 (by decide) ?_
          refine lv_dup2_11 hx hb dX7_shaded_59 rfl rfl ?_
          refine zy_ild X Z36 mL_ok mk_1 ml_1 (zz_in 7 3047 rfl) dX7_shaded_60 ?_
          refine zz_v (v := σ31 1 7) rfl ?_
          refine lv_iload hx hb dX7_shaded_61 (lv_at hl37 0 rfl) ?_
          refine lv_iadd hx hb dX7_shaded_63 ?_
          obtain ⟨σ39, es40, hf41⟩ := zLet hf33
          clear hf33
          refine zy_ist (σ' := σ39) X Z36 mL_ok mk_1 ml_1 (zz_in 7 3047 rfl) es40 dX7_shaded_64 (fun H42 lo43 Z44 => ?_)
          clear Z36 es40
          refine lv_aload_n hx hb dX7_shaded_65 rfl (lv_at hl37 2 rfl) ?_
          obtain ⟨r45, σ46, hc47, hf48⟩ := zBd hf41
          clear hf41
          refine zy_cv (WS1 := zg_W ML ad cA σ46) (TYS1 := zg_T ML cA) Z44 (va_runV (As := []) (rest := []) X (c_X7_holds l D V ad cA  σ39 r45 σ46 hc47 H42.size) (cwV 0 hts gX7_shaded_X7_holds rfl rfl rfl ⟨rfl, zh_X7_holds⟩ ⟨Nat.le_of_ble_eq_true rfl, Nat.le_of_ble_eq_true rfl⟩) (zy_pV (ci := 7) Z44 mL_ok mk_0 rfl rfl) rfl rfl hl37.1 rfl (lv_room (Nat.le_of_ble_eq_true rfl)) dX7_shaded_66 ⟨Nat.le_of_ble_eq_true rfl, Nat.le_of_ble_eq_true rfl⟩) (fun H49 lo50 Z51 => ?_)
          clear Z44 hc47
          refine lv_iload_n hx hb dX7_shaded_69 rfl (lv_at hl37 5 rfl) ?_
          refine lv_aload_n hx hb dX7_shaded_70 rfl (lv_at hl37 2 rfl) ?_
          refine lv_iload_n hx hb dX7_shaded_71 rfl (lv_at hl37 3 rfl) ?_
          obtain ⟨r52, σ53, hc54, hf55⟩ := zBd hf48
          clear hf48
          refine zy_ci (r0 := r52) (WS1 := zg_W ML ad cA σ53) (TYS1 := zg_T ML cA) Z51 (va_runV (As := [.int a1]) (rest := [.int x3]) X (c_X7_isShaded l D V ad cA a1 σ46 r52 σ53 hc54 H49.size) (cwV 1 hts gX7_shaded_X7_isShaded rfl rfl rfl ⟨rfl, zh_X7_isShaded⟩ ⟨Nat.le_of_ble_eq_true rfl, Nat.le_of_ble_eq_true rfl⟩) (zy_pV (ci := 7) Z51 mL_ok mk_0 rfl rfl) rfl rfl hl37.1 rfl (lv_room (Nat.le_of_ble_eq_true rfl)) dX7_shaded_72 ⟨Nat.le_of_ble_eq_true rfl, Nat.le_of_ble_eq_true rfl⟩) (fun H56 lo57 Z58 => ?_)
          clear Z51 hc54
          refine lv_if_eq (tgt := 82) hx hb dX7_shaded_75 (by decide) (fun b59 => ?_) (fun b59 => ?_)
          · have hf60 := zYes hf55 b59
            clear hf55
            refine lv_iconst (v := 0) hx hb dX7_shaded_82 (by decide) ?_
            exact b83_ x4 (σ 1 7) r30 0 x3 σ53 hf60 _ _ _ Z58 (lv_sub hl37 [2, 3, 4, 6, 1, 0] rfl)
          · have hf61 := zNot hf55 b59
            clear hf55
            refine lv_iconst (v := 1) hx hb dX7_shaded_78 (by decide) ?_
            refine lv_goto (tgt := 83) hx hb dX7_shaded_79 (by decide) ?_
            exact b83_ x4 (σ 1 7) r30 1 x3 σ53 hf61 _ _ _ Z58 (lv_sub hl37 [2, 3, 4, 6, 1, 0] rfl)
  refine lv_aload_n hx hb dX7_shaded_0 rfl (lv_at hl 0 rfl) ?_
  refine lv_iload_n hx hb dX7_shaded_1 rfl (lv_at hl 1 rfl) ?_
  obtain ⟨r62, σ63, hc64, hf65⟩ := zBd hf
  clear hf
  refine zy_ci (r0 := r62) (WS1 := zg_W ML ad cA σ63) (TYS1 := zg_T ML cA) Z (va_runV (As := [.int a1]) (rest := []) X (c_X7_isStall l D V ad cA a1 σ r62 σ63 hc64 s.heap.size) (cwV 1 hts gX7_shaded_X7_isStall rfl rfl rfl ⟨rfl, zh_X7_isStall⟩ ⟨Nat.le_of_ble_eq_true rfl, Nat.le_of_ble_eq_true rfl⟩) (zy_pV (ci := 7) Z mL_ok mk_0 rfl rfl) rfl rfl hl.1 rfl (lv_room (Nat.le_of_ble_eq_true rfl)) dX7_shaded_2 ⟨Nat.le_of_ble_eq_true rfl, Nat.le_of_ble_eq_true rfl⟩) (fun H66 lo67 Z68 => ?_)
  clear Z hc64
  refine lv_if_eq (tgt := 20) hx hb dX7_shaded_5 (by decide) (fun b69 => ?_) (fun b69 => ?_)
  · have hf70 := zYes hf65 b69
    clear hf65
    refine lv_ldc (v := (-1000000001)) hx hb hown (hts _ (zz_m 2 rfl)) dX7_shaded_20 ?_
    exact zy_iret X hr hlk Z68 (zEnd hf70) dX7_shaded_22
  · have hf71 := zNot hf65 b69
    clear hf65
    refine lv_iload_n hx hb dX7_shaded_8 rfl (lv_at hl 2 rfl) ?_
    refine lv_i2l (v := Int32.toInt64 a2) hx hb dX7_shaded_9 rfl ?_
    refine lv_lconst (v := 1) hx hb dX7_shaded_10 (by decide) ?_
    refine zz_vl (v := Int32.toInt64 1) (by decide) ?_
    refine lv_ldc2 (v := 60) hx hb hown (hts _ (zz_m 1 rfl)) dX7_shaded_11 ?_
    refine zz_vl (v := Int32.toInt64 60) (by decide) ?_
    obtain ⟨r72, σ73, hc74, hf75⟩ := zBd hf71
    clear hf71
    refine zy_ci (r0 := r72) (WS1 := zg_W ML ad cA σ73) (TYS1 := zg_T ML cA) Z68 (va_runS (As := [.long (Int32.toInt64 a2), .long (Int32.toInt64 1), .long (Int32.toInt64 60)]) (rest := []) X (c_X7_isIn l D V ad cA (Int32.toInt64 a2) (Int32.toInt64 1) (Int32.toInt64 60) σ63 r72 σ73 hc74 H66.size) (va_cwS 3 hts gX7_shaded_X7_isIn rfl rfl rfl zh_X7_isIn ⟨Nat.le_of_ble_eq_true rfl, Nat.le_of_ble_eq_true rfl⟩) (zz_pS Z68) rfl rfl hl.1 rfl (lv_room (Nat.le_of_ble_eq_true rfl)) dX7_shaded_14 ⟨Nat.le_of_ble_eq_true rfl, Nat.le_of_ble_eq_true rfl⟩) (fun H76 lo77 Z78 => ?_)
    clear Z68 hc74
    refine lv_if_ne (tgt := 23) hx hb dX7_shaded_17 (by decide) (fun b79 => ?_) (fun b79 => ?_)
    · have hf80 := zNot hf75 b79
      clear hf75
      refine lv_aload_n hx hb dX7_shaded_23 rfl (lv_at hl 0 rfl) ?_
      obtain ⟨r81, σ82, hc83, hf84⟩ := zBd hf80
      clear hf80
      refine zy_cv (WS1 := zg_W ML ad cA σ82) (TYS1 := zg_T ML cA) Z78 (va_runV (As := []) (rest := []) X (c_X7_laysBy l D V ad cA  σ73 r81 σ82 hc83 H76.size) (cwV 0 hts gX7_shaded_X7_laysBy rfl rfl rfl ⟨rfl, zh_X7_laysBy⟩ ⟨Nat.le_of_ble_eq_true rfl, Nat.le_of_ble_eq_true rfl⟩) (zy_pV (ci := 7) Z78 mL_ok mk_0 rfl rfl) rfl rfl hl.1 rfl (lv_room (Nat.le_of_ble_eq_true rfl)) dX7_shaded_24 ⟨Nat.le_of_ble_eq_true rfl, Nat.le_of_ble_eq_true rfl⟩) (fun H85 lo86 Z87 => ?_)
      clear Z78 hc83
      refine lv_iconst (v := 0) hx hb dX7_shaded_27 (by decide) ?_
      refine lv_istore_n (lv' := [(3, .int 0), (0, .ref (ad 0)), (1, .int a1), (2, .int a2)]) hx hb dX7_shaded_28 rfl hl (by decide) rfl (fun ls89 hl88 => ?_)
      clear hl
      refine lv_iconst (v := 0) hx hb dX7_shaded_29 (by decide) ?_
      refine lv_istore (lv' := [(4, .int 0), (3, .int 0), (0, .ref (ad 0)), (1, .int a1), (2, .int a2)]) hx hb dX7_shaded_30 hl88 (by decide) rfl (fun ls91 hl90 => ?_)
      clear hl88
      exact b32_ zfu 0 0 σ82 hf84 _ _ _ Z87 (lv_sub hl90 [2, 3, 4, 1, 0] rfl)
    · have hf92 := zYes hf75 b79
      clear hf75
      refine lv_ldc (v := (-1000000001)) hx hb hown (hts _ (zz_m 2 rfl)) dX7_shaded_20 ?_
      exact zy_iret X hr hlk Z78 (zEnd hf92) dX7_shaded_22
def B_X7_sheet_69 (a1 : Int32) (a2 : Int32) (a3 : Int32) (rec69_ : Int32 → zg_S → Option (Int32 × zg_S)) (x4 : Int32) (σ : zg_S) : Option (Int32 × zg_S) := (if 24 ≤ x4 then (if zin a1 4 = true then some (σ 5 (Int32.toNatClampNeg a1), σ) else none) else (if zin ((24 * a1) + x4) 96 = true then zlet (zg_up σ 6 (Int32.toNatClampNeg ((24 * a1) + x4)) 0) (fun (σ10 : zg_S) => rec69_ (x4 + 1) σ10) else none))
def L_X7_sheet_69 (a1 : Int32) (a2 : Int32) (a3 : Int32) : Nat → Int32 → zg_S → Option (Int32 × zg_S) := zfix (fun _ _ => none) (B_X7_sheet_69 a1 a2 a3)
def B_X7_sheet_65 (a1 : Int32) (a2 : Int32) (a3 : Int32) (y0 : Int32) (y1 : Int32) (σ : zg_S) : Option (Int32 × zg_S) := (if zin y1 4 = true then zlet (zg_up σ 5 (Int32.toNatClampNeg y1) y0) (fun (σ21 : zg_S) => L_X7_sheet_69 a1 a2 a3 zfu 0 σ21) else none)
def B_X7_sheet_44 (a1 : Int32) (a2 : Int32) (a3 : Int32) (σ : zg_S) : Option (Int32 × zg_S) := (if zin a1 4 = true then zlet (zg_up σ 4 (Int32.toNatClampNeg a1) a2) (fun (σ32 : zg_S) => (if 0 ≤ a2 then B_X7_sheet_65 a1 a2 a3 a3 a1 σ32 else B_X7_sheet_65 a1 a2 a3 0 a1 σ32)) else none)
def B_X7_sheet_32 (a1 : Int32) (a2 : Int32) (a3 : Int32) (σ : zg_S) : Option (Int32 × zg_S) := (if a2 < 0 then B_X7_sheet_44 a1 a2 a3 σ else (if 0 ≤ a3 then B_X7_sheet_44 a1 a2 a3 σ else some ((-1000000014), σ)))
def f_X7_sheet (a1 : Int32) (a2 : Int32) (a3 : Int32) (σ : zg_S) : Option (Int32 × zg_S) := zbd (f_X7_isSheet a1 σ) (fun (r47 : Int32) (σ48 : zg_S) => (if r47 = 0 then some ((-1000000001), σ48) else zbd (f_X7_isIn (Int32.toInt64 a2) (Int32.toInt64 (-1)) (Int32.toInt64 1) σ48) (fun (r57 : Int32) (σ58 : zg_S) => (if r57 = 0 then some ((-1000000001), σ58) else (if a2 < 0 then B_X7_sheet_32 a1 a2 a3 σ58 else (if a3 ≤ 24 then B_X7_sheet_32 a1 a2 a3 σ58 else some ((-1000000001), σ58)))))))
set_option maxHeartbeats 4000000 in
set_option maxRecDepth 100000 in
theorem c_X7_sheet (l : Launch) (D : va_G) (V : zz_V) (ad : Nat → Nat) (cA : Nat → ClassId) (a1 : Int32) (a2 : Int32) (a3 : Int32)  (σ : zg_S) (r0 : Int32) (σf : zg_S) (hf : f_X7_sheet a1 a2 a3 σ = some (r0, σf)) : zM_I l yX7_sheet wsX7_sheet 2 45 D V ML ad cA [.ref (ad 0), .int a1, .int a2, .int a3] σ r0 σf := by
  intro sz
  refine Met.ofW (cc := cX7_sheet) (maxL := 5) (ret := (some .int)) (by decide) rfl ?_
  intro p e s m args below meth c s₁ B hml hv
  obtain ⟨rfl, hC⟩ := hv
  have hx := B.exec
  have hb := B.bytes
  have hr := B.returns
  have hts := atoms_spec (ws := wsX7_sheet) B.pre
  have hown : s.vm.findClass RX7 = some m.cls := findClass_of_methodNamed B.named
  have hlk := B.notSynchronized
  have X : CallFix p m c cX7_sheet 5 s _ wsX7_sheet RX7 := ⟨hx, hb, hml, hown, hts⟩
  have Z := zz_enter hC
  generalize va_A (zg_W ML ad cA σ) sz = A at Z ⊢
  have hl := lv_entry ([.ref (ad 0), .int a1, .int a2, .int a3]) (n := 5) (Nat.le_of_ble_eq_true rfl)
  rw [lg_entry_eq]
  generalize (lg_sl ([.ref (ad 0), .int a1, .int a2, .int a3]) ++ List.replicate (5 - (lg_sl ([.ref (ad 0), .int a1, .int a2, .int a3])).length) Slot.unset).toArray = ls at hl ⊢
  have hl : lv_has ls 5 [(0, .ref (ad 0)), (1, .int a1), (2, .int a2), (3, .int a3)] := hl
  unfold f_X7_sheet at hf
  have b32_ : ∀ (σ : zg_S), B_X7_sheet_32 a1 a2 a3  σ = some (r0, σf) → ∀ (H : Heap) (locs : List Loc) (ls : Array Slot), zz_S D V A s (zg_W ML ad cA σ) (zg_T ML cA) H locs → lv_has ls 5 [(0, .ref (ad 0)), (1, .int a1), (2, .int a2), (3, .int a3)] → W p l e (headSpec wsX7_sheet { frames := 2, cells := 0, slots := 0, locals := 45 }).room s m (List.toArray [.ref (ad 0), .int a1, .int a2, .int a3]) below meth c H locs 0 0 (MQ below (va_Qi (fun r (_ : Unit) => r = r0) (fun _ t => zz_B D A (zg_W ML ad cA σf) (zg_T ML cA) t) A) (List.toArray [.ref (ad 0), .int a1, .int a2, .int a3]) s 0 0 A) (F0 m 32 ls []) := by
    intro σ hf32_ H32_ locs32_ ls32_ Z32_ hl32_
    unfold B_X7_sheet_32 at hf32_
    have b44_ : ∀ (σ : zg_S), B_X7_sheet_44 a1 a2 a3  σ = some (r0, σf) → ∀ (H : Heap) (locs : List Loc) (ls : Array Slot), zz_S D V A s (zg_W ML ad cA σ) (zg_T ML cA) H locs → lv_has ls 5 [(0, .ref (ad 0)), (1, .int a1), (2, .int a2), (3, .int a3)] → W p l e (headSpec wsX7_sheet { frames := 2, cells := 0, slots := 0, locals := 45 }).room s m (List.toArray [.ref (ad 0), .int a1, .int a2, .int a3]) below meth c H locs 0 0 (MQ below (va_Qi (fun r (_ : Unit) => r = r0) (fun _ t => zz_B D A (zg_W ML ad cA σf) (zg_T ML cA) t) A) (List.toArray [.ref (ad 0), .int a1, .int a2, .int a3]) s 0 0 A) (F0 m 44 ls []) := by
      intro σ hf44_ H44_ locs44_ ls44_ Z44_ hl44_
      unfold B_X7_sheet_44 at hf44_
      have b65_ : ∀ (y0 : Int32) (y1 : Int32) (σ : zg_S), B_X7_sheet_65 a1 a2 a3 y0 y1 σ = some (r0, σf) → ∀ (H : Heap) (locs : List Loc) (ls : Array Slot), zz_S D V A s (zg_W ML ad cA σ) (zg_T ML cA) H locs → lv_has ls 5 [(0, .ref (ad 0)), (1, .int a1)] → W p l e (headSpec wsX7_sheet { frames := 2, cells := 0, slots := 0, locals := 45 }).room s m (List.toArray [.ref (ad 0), .int a1, .int a2, .int a3]) below meth c H locs 0 0 (MQ below (va_Qi (fun r (_ : Unit) => r = r0) (fun _ t => zz_B D A (zg_W ML ad cA σf) (zg_T ML cA) t) A) (List.toArray [.ref (ad 0), .int a1, .int a2, .int a3]) s 0 0 A) (F0 m 65 ls [.int y0, .int y1, .ref (ad 5)]) := by
        intro y0 y1 σ hf65_ H65_ locs65_ ls65_ Z65_ hl65_
        unfold B_X7_sheet_65 at hf65_
        have b69_ : ∀ (k69_ : Nat) (x4 : Int32) (σ : zg_S), L_X7_sheet_69 a1 a2 a3 k69_ x4 σ = some (r0, σf) → ∀ (H : Heap) (locs : List Loc) (ls : Array Slot), zz_S D V A s (zg_W ML ad cA σ) (zg_T ML cA) H locs → lv_has ls 5 [(0, .ref (ad 0)), (1, .int a1), (4, .int x4)] → W p l e (headSpec wsX7_sheet { frames := 2, cells := 0, slots := 0, locals := 45 }).room s m (List.toArray [.ref (ad 0), .int a1, .int a2, .int a3]) below meth c H locs 0 0 (MQ below (va_Qi (fun r (_ : Unit) => r = r0) (fun _ t => zz_B D A (zg_W ML ad cA σf) (zg_T ML cA) t) A) (List.toArray [.ref (ad 0), .int a1, .int a2, .int a3]) s 0 0 A) (F0 m 69 ls []) := by
          intro k69_
          induction k69_ with
          | zero =>
              intro x4 σ hf69_ H69_ locs69_ ls69_ Z69_ hl69_
              exact zNone hf69_
          | succ k69_ ih69_ =>
              intro x4 σ hf69_ H69_ locs69_ ls69_ Z69_ hl69_
              replace hf69_ : B_X7_sheet_69 a1 a2 a3 (L_X7_sheet_69 a1 a2 a3 k69_) x4 σ = some (r0, σf) := hf69_
              unfold B_X7_sheet_69 at hf69_
              refine lv_iload hx hb dX7_sheet_69 (lv_at hl69_ 2 rfl) ?_
              refine lv_bipush (v := 24) hx hb dX7_sheet_71 (by decide) ?_
              refine lv_icmp_ge (tgt := 95) hx hb dX7_sheet_73 (by decide) (fun b1 => ?_) (fun b1 => ?_)
              · have hf2 := zYes hf69_ b1
                clear hf69_
                refine lv_aload_n hx hb dX7_sheet_95 rfl (lv_at hl69_ 0 rfl) ?_
                refine zy_get (v := .ref (ad 5)) X Z69_ mL_ok mk_0 rfl rfl (fun w h => List.mem_cons_of_mem _ (List.mem_append_right _ h)) 5 rfl (zz_m 5 rfl) rfl dX7_sheet_96 ?_
                refine lv_iload_n hx hb dX7_sheet_99 rfl (lv_at hl69_ 1 rfl) ?_
                obtain ⟨⟨i3, j4⟩, hf5⟩ := zG hf2
                clear hf2
                refine zy_ild X Z69_ mL_ok mk_5 ml_5 i3 dX7_sheet_100 ?_
                exact zy_iret X hr hlk Z69_ (zEnd hf5) dX7_sheet_101
              · have hf6 := zNot hf69_ b1
                clear hf69_
                refine lv_aload_n hx hb dX7_sheet_76 rfl (lv_at hl69_ 0 rfl) ?_
                refine zy_get (v := .ref (ad 6)) X Z69_ mL_ok mk_0 rfl rfl (fun w h => List.mem_cons_of_mem _ (List.mem_append_right _ h)) 6 rfl (zz_m 6 rfl) rfl dX7_sheet_77 ?_
                refine lv_bipush (v := 24) hx hb dX7_sheet_80 (by decide) ?_
                refine lv_iload_n hx hb dX7_sheet_82 rfl (lv_at hl69_ 1 rfl) ?_
                refine lv_imul hx hb dX7_sheet_83 ?_
                refine lv_iload hx hb dX7_sheet_84 (lv_at hl69_ 2 rfl) ?_
                refine lv_iadd hx hb dX7_sheet_86 ?_
                refine lv_iconst (v := 0) hx hb dX7_sheet_87 (by decide) ?_
                obtain ⟨⟨i7, j8⟩, hf9⟩ := zG hf6
                clear hf6
                obtain ⟨σ10, es11, hf12⟩ := zLet hf9
                clear hf9
                refine zy_ist (σ' := σ10) X Z69_ mL_ok mk_6 ml_6 i7 es11 dX7_sheet_88 (fun H13 lo14 Z15 => ?_)
                clear Z69_ es11
                refine lv_iinc (v := (x4 + 1)) (lv' := [(4, .int (x4 + 1)), (0, .ref (ad 0)), (1, .int a1)]) hx hb dX7_sheet_89 hl69_ (k := 2) rfl rfl (by decide) rfl (fun ls17 hl16 => ?_)
                clear hl69_
                refine lv_goto (tgt := 69) hx hb dX7_sheet_92 (by decide) ?_
                exact ih69_ (x4 + 1) σ10 hf12 _ _ _ Z15 (lv_sub hl16 [1, 2, 0] rfl)
        obtain ⟨⟨i18, j19⟩, hf20⟩ := zG hf65_
        clear hf65_
        obtain ⟨σ21, es22, hf23⟩ := zLet hf20
        clear hf20
        refine zy_ist (σ' := σ21) X Z65_ mL_ok mk_5 ml_5 i18 es22 dX7_sheet_65 (fun H24 lo25 Z26 => ?_)
        clear Z65_ es22
        refine lv_iconst (v := 0) hx hb dX7_sheet_66 (by decide) ?_
        refine lv_istore (lv' := [(4, .int 0), (0, .ref (ad 0)), (1, .int a1)]) hx hb dX7_sheet_67 hl65_ (by decide) rfl (fun ls28 hl27 => ?_)
        clear hl65_
        exact b69_ zfu 0 σ21 hf23 _ _ _ Z26 (lv_sub hl27 [1, 2, 0] rfl)
      refine lv_aload_n hx hb dX7_sheet_44 rfl (lv_at hl44_ 0 rfl) ?_
      refine zy_get (v := .ref (ad 4)) X Z44_ mL_ok mk_0 rfl rfl (fun w h => List.mem_cons_of_mem _ (List.mem_append_right _ h)) 4 rfl (zz_m 4 rfl) rfl dX7_sheet_45 ?_
      refine lv_iload_n hx hb dX7_sheet_48 rfl (lv_at hl44_ 1 rfl) ?_
      refine lv_iload_n hx hb dX7_sheet_49 rfl (lv_at hl44_ 2 rfl) ?_
      obtain ⟨⟨i29, j30⟩, hf31⟩ := zG hf44_
      clear hf44_
      obtain ⟨σ32, es33, hf34⟩ := zLet hf31
      clear hf31
      refine zy_ist (σ' := σ32) X Z44_ mL_ok mk_4 ml_4 i29 es33 dX7_sheet_50 (fun H35 lo36 Z37 => ?_)
      clear Z44_ es33
      refine lv_aload_n hx hb dX7_sheet_51 rfl (lv_at hl44_ 0 rfl) ?_
      refine zy_get (v := .ref (ad 5)) X Z37 mL_ok mk_0 rfl rfl (fun w h => List.mem_cons_of_mem _ (List.mem_append_right _ h)) 5 rfl (zz_m 5 rfl) rfl dX7_sheet_52 ?_
      refine lv_iload_n hx hb dX7_sheet_55 rfl (lv_at hl44_ 1 rfl) ?_
      refine lv_iload_n hx hb dX7_sheet_56 rfl (lv_at hl44_ 2 rfl) ?_
      refine lv_if_ge (tgt := 64) hx hb dX7_sheet_57 (by decide) (fun b38 => ?_) (fun b38 => ?_)
      · have hf39 := zYes hf34 b38
        clear hf34
        refine lv_iload_n hx hb dX7_sheet_64 rfl (lv_at hl44_ 3 rfl) ?_
        exact b65_ a3 a1 σ32 hf39 _ _ _ Z37 (lv_sub hl44_ [0, 1] rfl)
      · have hf40 := zNot hf34 b38
        clear hf34
        refine lv_iconst (v := 0) hx hb dX7_sheet_60 (by decide) ?_
        refine lv_goto (tgt := 65) hx hb dX7_sheet_61 (by decide) ?_
        exact b65_ 0 a1 σ32 hf40 _ _ _ Z37 (lv_sub hl44_ [0, 1] rfl)
    refine lv_iload_n hx hb dX7_sheet_32 rfl (lv_at hl32_ 2 rfl) ?_
    refine lv_if_lt (tgt := 44) hx hb dX7_sheet_33 (by decide) (fun b41 => ?_) (fun b41 => ?_)
    · have hf42 := zYes hf32_ b41
      clear hf32_
      exact b44_ σ hf42 _ _ _ Z32_ (lv_sub hl32_ [0, 1, 2, 3] rfl)
    · have hf43 := zNot hf32_ b41
      clear hf32_
      refine lv_iload_n hx hb dX7_sheet_36 rfl (lv_at hl32_ 3 rfl) ?_
      refine lv_if_ge (tgt := 44) hx hb dX7_sheet_37 (by decide) (fun b44 => ?_) (fun b44 => ?_)
      · have hf45 := zYes hf43 b44
        clear hf43
        exact b44_ σ hf45 _ _ _ Z32_ (lv_sub hl32_ [0, 1, 2, 3] rfl)
      · have hf46 := zNot hf43 b44
        clear hf43
        refine lv_ldcw (v := (-1000000014)) hx hb hown (hts _ (zz_m 3 rfl)) dX7_sheet_40 ?_
        exact zy_iret X hr hlk Z32_ (zEnd hf46) dX7_sheet_43
  refine lv_iload_n hx hb dX7_sheet_0 rfl (lv_at hl 1 rfl) ?_
  obtain ⟨r47, σ48, hc49, hf50⟩ := zBd hf
  clear hf
  refine zy_ci (r0 := r47) (WS1 := zg_W ML ad cA σ48) (TYS1 := zg_T ML cA) Z (va_runS (As := [.int a1]) (rest := []) X (c_X7_isSheet l D V ad cA a1 σ r47 σ48 hc49 s.heap.size) (va_cwS 1 hts gX7_sheet_X7_isSheet rfl rfl rfl zh_X7_isSheet ⟨Nat.le_of_ble_eq_true rfl, Nat.le_of_ble_eq_true rfl⟩) (zz_pS Z) rfl rfl hl.1 rfl (lv_room (Nat.le_of_ble_eq_true rfl)) dX7_sheet_1 ⟨Nat.le_of_ble_eq_true rfl, Nat.le_of_ble_eq_true rfl⟩) (fun H51 lo52 Z53 => ?_)
  clear Z hc49
  refine lv_if_eq (tgt := 29) hx hb dX7_sheet_4 (by decide) (fun b54 => ?_) (fun b54 => ?_)
  · have hf55 := zYes hf50 b54
    clear hf50
    refine lv_ldc (v := (-1000000001)) hx hb hown (hts _ (zz_m 2 rfl)) dX7_sheet_29 ?_
    exact zy_iret X hr hlk Z53 (zEnd hf55) dX7_sheet_31
  · have hf56 := zNot hf50 b54
    clear hf50
    refine lv_iload_n hx hb dX7_sheet_7 rfl (lv_at hl 2 rfl) ?_
    refine lv_i2l (v := Int32.toInt64 a2) hx hb dX7_sheet_8 rfl ?_
    refine lv_ldc2 (v := (-1)) hx hb hown (hts _ (zz_m 1 rfl)) dX7_sheet_9 ?_
    refine zz_vl (v := Int32.toInt64 (-1)) (by decide) ?_
    refine lv_lconst (v := 1) hx hb dX7_sheet_12 (by decide) ?_
    refine zz_vl (v := Int32.toInt64 1) (by decide) ?_
    obtain ⟨r57, σ58, hc59, hf60⟩ := zBd hf56
    clear hf56
    refine zy_ci (r0 := r57) (WS1 := zg_W ML ad cA σ58) (TYS1 := zg_T ML cA) Z53 (va_runS (As := [.long (Int32.toInt64 a2), .long (Int32.toInt64 (-1)), .long (Int32.toInt64 1)]) (rest := []) X (c_X7_isIn l D V ad cA (Int32.toInt64 a2) (Int32.toInt64 (-1)) (Int32.toInt64 1) σ48 r57 σ58 hc59 H51.size) (va_cwS 3 hts gX7_sheet_X7_isIn rfl rfl rfl zh_X7_isIn ⟨Nat.le_of_ble_eq_true rfl, Nat.le_of_ble_eq_true rfl⟩) (zz_pS Z53) rfl rfl hl.1 rfl (lv_room (Nat.le_of_ble_eq_true rfl)) dX7_sheet_13 ⟨Nat.le_of_ble_eq_true rfl, Nat.le_of_ble_eq_true rfl⟩) (fun H61 lo62 Z63 => ?_)
    clear Z53 hc59
    refine lv_if_eq (tgt := 29) hx hb dX7_sheet_16 (by decide) (fun b64 => ?_) (fun b64 => ?_)
    · have hf65 := zYes hf60 b64
      clear hf60
      refine lv_ldc (v := (-1000000001)) hx hb hown (hts _ (zz_m 2 rfl)) dX7_sheet_29 ?_
      exact zy_iret X hr hlk Z63 (zEnd hf65) dX7_sheet_31
    · have hf66 := zNot hf60 b64
      clear hf60
      refine lv_iload_n hx hb dX7_sheet_19 rfl (lv_at hl 2 rfl) ?_
      refine lv_if_lt (tgt := 32) hx hb dX7_sheet_20 (by decide) (fun b67 => ?_) (fun b67 => ?_)
      · have hf68 := zYes hf66 b67
        clear hf66
        exact b32_ σ58 hf68 _ _ _ Z63 (lv_sub hl [0, 1, 2, 3] rfl)
      · have hf69 := zNot hf66 b67
        clear hf66
        refine lv_iload_n hx hb dX7_sheet_23 rfl (lv_at hl 3 rfl) ?_
        refine lv_bipush (v := 24) hx hb dX7_sheet_24 (by decide) ?_
        refine lv_icmp_le (tgt := 32) hx hb dX7_sheet_26 (by decide) (fun b70 => ?_) (fun b70 => ?_)
        · have hf71 := zYes hf69 b70
          clear hf69
          exact b32_ σ58 hf71 _ _ _ Z63 (lv_sub hl [0, 1, 2, 3] rfl)
        · have hf72 := zNot hf69 b70
          clear hf69
          refine lv_ldc (v := (-1000000001)) hx hb hown (hts _ (zz_m 2 rfl)) dX7_sheet_29 ?_
          exact zy_iret X hr hlk Z63 (zEnd hf72) dX7_sheet_31
def f_X7_stall (a1 : Int32) (a2 : Int32) (a3 : Int32) (σ : zg_S) : Option (Int32 × zg_S) := zbd (f_X7_isIn (Int32.toInt64 a1) (Int32.toInt64 0) (Int32.toInt64 5) σ) (fun (r1 : Int32) (σ2 : zg_S) => (if r1 = 0 then some ((-1000000001), σ2) else zbd (f_X7_isIn (Int32.toInt64 a2) (Int32.toInt64 0) (Int32.toInt64 11) σ2) (fun (r11 : Int32) (σ12 : zg_S) => (if r11 = 0 then some ((-1000000001), σ12) else zbd (f_X7_isIn (Int32.toInt64 a3) (Int32.toInt64 0) (Int32.toInt64 99) σ12) (fun (r21 : Int32) (σ22 : zg_S) => (if r21 = 0 then some ((-1000000001), σ22) else (if (σ22 1 0) = 9 then some ((-1000000003), σ22) else zbd (f_X7_comes a1 a2 a3 σ22) (fun (r32 : Int32) (σ33 : zg_S) => some ((σ33 1 0) - 1, σ33)))))))))
set_option maxHeartbeats 4000000 in
set_option maxRecDepth 100000 in
theorem c_X7_stall (l : Launch) (D : va_G) (V : zz_V) (ad : Nat → Nat) (cA : Nat → ClassId) (a1 : Int32) (a2 : Int32) (a3 : Int32)  (σ : zg_S) (r0 : Int32) (σf : zg_S) (hf : f_X7_stall a1 a2 a3 σ = some (r0, σf)) : zM_I l yX7_stall wsX7_stall 2 47 D V ML ad cA [.ref (ad 0), .int a1, .int a2, .int a3] σ r0 σf := by
  intro sz
  refine Met.ofW (cc := cX7_stall) (maxL := 4) (ret := (some .int)) (by decide) rfl ?_
  intro p e s m args below meth c s₁ B hml hv
  obtain ⟨rfl, hC⟩ := hv
  have hx := B.exec
  have hb := B.bytes
  have hr := B.returns
  have hts := atoms_spec (ws := wsX7_stall) B.pre
  have hown : s.vm.findClass RX7 = some m.cls := findClass_of_methodNamed B.named
  have hlk := B.notSynchronized
  have X : CallFix p m c cX7_stall 4 s _ wsX7_stall RX7 := ⟨hx, hb, hml, hown, hts⟩
  have Z := zz_enter hC
  generalize va_A (zg_W ML ad cA σ) sz = A at Z ⊢
  have hl := lv_entry ([.ref (ad 0), .int a1, .int a2, .int a3]) (n := 4) (Nat.le_of_ble_eq_true rfl)
  rw [lg_entry_eq]
  generalize (lg_sl ([.ref (ad 0), .int a1, .int a2, .int a3]) ++ List.replicate (4 - (lg_sl ([.ref (ad 0), .int a1, .int a2, .int a3])).length) Slot.unset).toArray = ls at hl ⊢
  have hl : lv_has ls 4 [(0, .ref (ad 0)), (1, .int a1), (2, .int a2), (3, .int a3)] := hl
  unfold f_X7_stall at hf
  refine lv_iload_n hx hb dX7_stall_0 rfl (lv_at hl 1 rfl) ?_
  refine lv_i2l (v := Int32.toInt64 a1) hx hb dX7_stall_1 rfl ?_
  refine lv_lconst (v := 0) hx hb dX7_stall_2 (by decide) ?_
  refine zz_vl (v := Int32.toInt64 0) (by decide) ?_
  refine lv_ldc2 (v := 5) hx hb hown (hts _ (zz_m 1 rfl)) dX7_stall_3 ?_
  refine zz_vl (v := Int32.toInt64 5) (by decide) ?_
  obtain ⟨r1, σ2, hc3, hf4⟩ := zBd hf
  clear hf
  refine zy_ci (r0 := r1) (WS1 := zg_W ML ad cA σ2) (TYS1 := zg_T ML cA) Z (va_runS (As := [.long (Int32.toInt64 a1), .long (Int32.toInt64 0), .long (Int32.toInt64 5)]) (rest := []) X (c_X7_isIn l D V ad cA (Int32.toInt64 a1) (Int32.toInt64 0) (Int32.toInt64 5) σ r1 σ2 hc3 s.heap.size) (va_cwS 3 hts gX7_stall_X7_isIn rfl rfl rfl zh_X7_isIn ⟨Nat.le_of_ble_eq_true rfl, Nat.le_of_ble_eq_true rfl⟩) (zz_pS Z) rfl rfl hl.1 rfl (lv_room (Nat.le_of_ble_eq_true rfl)) dX7_stall_6 ⟨Nat.le_of_ble_eq_true rfl, Nat.le_of_ble_eq_true rfl⟩) (fun H5 lo6 Z7 => ?_)
  clear Z hc3
  refine lv_if_eq (tgt := 36) hx hb dX7_stall_9 (by decide) (fun b8 => ?_) (fun b8 => ?_)
  · have hf9 := zYes hf4 b8
    clear hf4
    refine lv_ldc (v := (-1000000001)) hx hb hown (hts _ (zz_m 4 rfl)) dX7_stall_36 ?_
    exact zy_iret X hr hlk Z7 (zEnd hf9) dX7_stall_38
  · have hf10 := zNot hf4 b8
    clear hf4
    refine lv_iload_n hx hb dX7_stall_12 rfl (lv_at hl 2 rfl) ?_
    refine lv_i2l (v := Int32.toInt64 a2) hx hb dX7_stall_13 rfl ?_
    refine lv_lconst (v := 0) hx hb dX7_stall_14 (by decide) ?_
    refine zz_vl (v := Int32.toInt64 0) (by decide) ?_
    refine lv_ldc2 (v := 11) hx hb hown (hts _ (zz_m 2 rfl)) dX7_stall_15 ?_
    refine zz_vl (v := Int32.toInt64 11) (by decide) ?_
    obtain ⟨r11, σ12, hc13, hf14⟩ := zBd hf10
    clear hf10
    refine zy_ci (r0 := r11) (WS1 := zg_W ML ad cA σ12) (TYS1 := zg_T ML cA) Z7 (va_runS (As := [.long (Int32.toInt64 a2), .long (Int32.toInt64 0), .long (Int32.toInt64 11)]) (rest := []) X (c_X7_isIn l D V ad cA (Int32.toInt64 a2) (Int32.toInt64 0) (Int32.toInt64 11) σ2 r11 σ12 hc13 H5.size) (va_cwS 3 hts gX7_stall_X7_isIn rfl rfl rfl zh_X7_isIn ⟨Nat.le_of_ble_eq_true rfl, Nat.le_of_ble_eq_true rfl⟩) (zz_pS Z7) rfl rfl hl.1 rfl (lv_room (Nat.le_of_ble_eq_true rfl)) dX7_stall_18 ⟨Nat.le_of_ble_eq_true rfl, Nat.le_of_ble_eq_true rfl⟩) (fun H15 lo16 Z17 => ?_)
    clear Z7 hc13
    refine lv_if_eq (tgt := 36) hx hb dX7_stall_21 (by decide) (fun b18 => ?_) (fun b18 => ?_)
    · have hf19 := zYes hf14 b18
      clear hf14
      refine lv_ldc (v := (-1000000001)) hx hb hown (hts _ (zz_m 4 rfl)) dX7_stall_36 ?_
      exact zy_iret X hr hlk Z17 (zEnd hf19) dX7_stall_38
    · have hf20 := zNot hf14 b18
      clear hf14
      refine lv_iload_n hx hb dX7_stall_24 rfl (lv_at hl 3 rfl) ?_
      refine lv_i2l (v := Int32.toInt64 a3) hx hb dX7_stall_25 rfl ?_
      refine lv_lconst (v := 0) hx hb dX7_stall_26 (by decide) ?_
      refine zz_vl (v := Int32.toInt64 0) (by decide) ?_
      refine lv_ldc2 (v := 99) hx hb hown (hts _ (zz_m 3 rfl)) dX7_stall_27 ?_
      refine zz_vl (v := Int32.toInt64 99) (by decide) ?_
      obtain ⟨r21, σ22, hc23, hf24⟩ := zBd hf20
      clear hf20
      refine zy_ci (r0 := r21) (WS1 := zg_W ML ad cA σ22) (TYS1 := zg_T ML cA) Z17 (va_runS (As := [.long (Int32.toInt64 a3), .long (Int32.toInt64 0), .long (Int32.toInt64 99)]) (rest := []) X (c_X7_isIn l D V ad cA (Int32.toInt64 a3) (Int32.toInt64 0) (Int32.toInt64 99) σ12 r21 σ22 hc23 H15.size) (va_cwS 3 hts gX7_stall_X7_isIn rfl rfl rfl zh_X7_isIn ⟨Nat.le_of_ble_eq_true rfl, Nat.le_of_ble_eq_true rfl⟩) (zz_pS Z17) rfl rfl hl.1 rfl (lv_room (Nat.le_of_ble_eq_true rfl)) dX7_stall_30 ⟨Nat.le_of_ble_eq_true rfl, Nat.le_of_ble_eq_true rfl⟩) (fun H25 lo26 Z27 => ?_)
      clear Z17 hc23
      refine lv_if_ne (tgt := 39) hx hb dX7_stall_33 (by decide) (fun b28 => ?_) (fun b28 => ?_)
      · have hf29 := zNot hf24 b28
        clear hf24
        refine lv_aload_n hx hb dX7_stall_39 rfl (lv_at hl 0 rfl) ?_
        refine zy_get (v := .ref (ad 1)) X Z27 mL_ok mk_0 rfl rfl (fun w h => List.mem_cons_of_mem _ (List.mem_append_right _ h)) 0 rfl (zz_m 5 rfl) rfl dX7_stall_40 ?_
        refine lv_iconst (v := 0) hx hb dX7_stall_43 (by decide) ?_
        refine zy_ild X Z27 mL_ok mk_1 ml_1 (zz_in 0 3047 rfl) dX7_stall_44 ?_
        refine zz_v (v := σ22 1 0) rfl ?_
        refine lv_bipush (v := 9) hx hb dX7_stall_45 (by decide) ?_
        refine lv_icmp_ne (tgt := 53) hx hb dX7_stall_47 (by decide) (fun b30 => ?_) (fun b30 => ?_)
        · have hf31 := zNot hf29 b30
          clear hf29
          refine lv_aload_n hx hb dX7_stall_53 rfl (lv_at hl 0 rfl) ?_
          refine lv_iload_n hx hb dX7_stall_54 rfl (lv_at hl 1 rfl) ?_
          refine lv_iload_n hx hb dX7_stall_55 rfl (lv_at hl 2 rfl) ?_
          refine lv_iload_n hx hb dX7_stall_56 rfl (lv_at hl 3 rfl) ?_
          obtain ⟨r32, σ33, hc34, hf35⟩ := zBd hf31
          clear hf31
          refine zy_cv (WS1 := zg_W ML ad cA σ33) (TYS1 := zg_T ML cA) Z27 (va_runV (As := [.int a1, .int a2, .int a3]) (rest := []) X (c_X7_comes l D V ad cA a1 a2 a3 σ22 r32 σ33 hc34 H25.size) (cwV 3 hts gX7_stall_X7_comes rfl rfl rfl ⟨rfl, zh_X7_comes⟩ ⟨Nat.le_of_ble_eq_true rfl, Nat.le_of_ble_eq_true rfl⟩) (zy_pV (ci := 7) Z27 mL_ok mk_0 rfl rfl) rfl rfl hl.1 rfl (lv_room (Nat.le_of_ble_eq_true rfl)) dX7_stall_57 ⟨Nat.le_of_ble_eq_true rfl, Nat.le_of_ble_eq_true rfl⟩) (fun H36 lo37 Z38 => ?_)
          clear Z27 hc34
          refine lv_aload_n hx hb dX7_stall_60 rfl (lv_at hl 0 rfl) ?_
          refine zy_get (v := .ref (ad 1)) X Z38 mL_ok mk_0 rfl rfl (fun w h => List.mem_cons_of_mem _ (List.mem_append_right _ h)) 0 rfl (zz_m 5 rfl) rfl dX7_stall_61 ?_
          refine lv_iconst (v := 0) hx hb dX7_stall_64 (by decide) ?_
          refine zy_ild X Z38 mL_ok mk_1 ml_1 (zz_in 0 3047 rfl) dX7_stall_65 ?_
          refine zz_v (v := σ33 1 0) rfl ?_
          refine lv_iconst (v := 1) hx hb dX7_stall_66 (by decide) ?_
          refine lv_isub hx hb dX7_stall_67 ?_
          exact zy_iret X hr hlk Z38 (zEnd hf35) dX7_stall_68
        · have hf39 := zYes hf29 b30
          clear hf29
          refine lv_ldc (v := (-1000000003)) hx hb hown (hts _ (zz_m 6 rfl)) dX7_stall_50 ?_
          exact zy_iret X hr hlk Z27 (zEnd hf39) dX7_stall_52
      · have hf40 := zYes hf24 b28
        clear hf24
        refine lv_ldc (v := (-1000000001)) hx hb hown (hts _ (zz_m 4 rfl)) dX7_stall_36 ?_
        exact zy_iret X hr hlk Z27 (zEnd hf40) dX7_stall_38
def f_X7_tell (a1 : Int32) (σ : zg_S) : Option (Int32 × zg_S) := (if (σ 0 29) = 60 then some ((-1000000003), σ) else (if zin (σ 0 29) 60 = true then zlet (zg_up σ 17 (Int32.toNatClampNeg (σ 0 29)) a1) (fun (σ6 : zg_S) => zlet (zg_up σ6 0 29 ((σ6 0 29) + 1)) (fun (σ12 : zg_S) => some (σ12 0 29, σ12))) else none))
set_option maxHeartbeats 4000000 in
set_option maxRecDepth 100000 in
theorem c_X7_tell (l : Launch) (D : va_G) (V : zz_V) (ad : Nat → Nat) (cA : Nat → ClassId) (a1 : Int32)  (σ : zg_S) (r0 : Int32) (σf : zg_S) (hf : f_X7_tell a1 σ = some (r0, σf)) : zM_I l yX7_tell wsX7_tell 0 0 D V ML ad cA [.ref (ad 0), .int a1] σ r0 σf := by
  intro sz
  refine Met.ofW (cc := cX7_tell) (maxL := 2) (ret := (some .int)) (by decide) rfl ?_
  intro p e s m args below meth c s₁ B hml hv
  obtain ⟨rfl, hC⟩ := hv
  have hx := B.exec
  have hb := B.bytes
  have hr := B.returns
  have hts := atoms_spec (ws := wsX7_tell) B.pre
  have hown : s.vm.findClass RX7 = some m.cls := findClass_of_methodNamed B.named
  have hlk := B.notSynchronized
  have X : CallFix p m c cX7_tell 2 s _ wsX7_tell RX7 := ⟨hx, hb, hml, hown, hts⟩
  have Z := zz_enter hC
  generalize va_A (zg_W ML ad cA σ) sz = A at Z ⊢
  have hl := lv_entry ([.ref (ad 0), .int a1]) (n := 2) (Nat.le_of_ble_eq_true rfl)
  rw [lg_entry_eq]
  generalize (lg_sl ([.ref (ad 0), .int a1]) ++ List.replicate (2 - (lg_sl ([.ref (ad 0), .int a1])).length) Slot.unset).toArray = ls at hl ⊢
  have hl : lv_has ls 2 [(0, .ref (ad 0)), (1, .int a1)] := hl
  unfold f_X7_tell at hf
  refine lv_aload_n hx hb dX7_tell_0 rfl (lv_at hl 0 rfl) ?_
  refine zy_get (v := .int (σ 0 29)) X Z mL_ok mk_0 rfl rfl (fun w h => List.mem_cons_of_mem _ (List.mem_append_right _ h)) 29 rfl (zz_m 1 rfl) rfl dX7_tell_1 ?_
  refine lv_bipush (v := 60) hx hb dX7_tell_4 (by decide) ?_
  refine lv_icmp_ne (tgt := 12) hx hb dX7_tell_6 (by decide) (fun b1 => ?_) (fun b1 => ?_)
  · have hf2 := zNot hf b1
    clear hf
    refine lv_aload_n hx hb dX7_tell_12 rfl (lv_at hl 0 rfl) ?_
    refine zy_get (v := .ref (ad 17)) X Z mL_ok mk_0 rfl rfl (fun w h => List.mem_cons_of_mem _ (List.mem_append_right _ h)) 28 rfl (zz_m 3 rfl) rfl dX7_tell_13 ?_
    refine lv_aload_n hx hb dX7_tell_16 rfl (lv_at hl 0 rfl) ?_
    refine zy_get (v := .int (σ 0 29)) X Z mL_ok mk_0 rfl rfl (fun w h => List.mem_cons_of_mem _ (List.mem_append_right _ h)) 29 rfl (zz_m 1 rfl) rfl dX7_tell_17 ?_
    refine lv_iload_n hx hb dX7_tell_20 rfl (lv_at hl 1 rfl) ?_
    obtain ⟨⟨i3, j4⟩, hf5⟩ := zG hf2
    clear hf2
    obtain ⟨σ6, es7, hf8⟩ := zLet hf5
    clear hf5
    refine zy_ist (σ' := σ6) X Z mL_ok mk_17 ml_17 i3 es7 dX7_tell_21 (fun H9 lo10 Z11 => ?_)
    clear Z es7
    refine lv_aload_n hx hb dX7_tell_22 rfl (lv_at hl 0 rfl) ?_
    refine lv_dup hx hb dX7_tell_23 rfl ?_
    refine zy_get (v := .int (σ6 0 29)) X Z11 mL_ok mk_0 rfl rfl (fun w h => List.mem_cons_of_mem _ (List.mem_append_right _ h)) 29 rfl (zz_m 1 rfl) rfl dX7_tell_24 ?_
    refine lv_iconst (v := 1) hx hb dX7_tell_27 (by decide) ?_
    refine lv_iadd hx hb dX7_tell_28 ?_
    obtain ⟨σ12, es13, hf14⟩ := zLet hf8
    clear hf8
    refine zy_put (v := (σ6 0 29) + 1) (σ' := σ12) X Z11 mL_ok mk_0 rfl rfl (fun w h => List.mem_cons_of_mem _ (List.mem_append_right _ h)) tyX7 tyX7_ok nmX7 29 rfl (zz_m 1 rfl) rfl rfl rfl (fun _ => rfl) (fun _ => rfl) es13 dX7_tell_29 (fun H15 lo16 Z17 => ?_)
    clear Z11 es13
    refine lv_aload_n hx hb dX7_tell_32 rfl (lv_at hl 0 rfl) ?_
    refine zy_get (v := .int (σ12 0 29)) X Z17 mL_ok mk_0 rfl rfl (fun w h => List.mem_cons_of_mem _ (List.mem_append_right _ h)) 29 rfl (zz_m 1 rfl) rfl dX7_tell_33 ?_
    exact zy_iret X hr hlk Z17 (zEnd hf14) dX7_tell_36
  · have hf18 := zYes hf b1
    clear hf
    refine lv_ldc (v := (-1000000003)) hx hb hown (hts _ (zz_m 2 rfl)) dX7_tell_9 ?_
    exact zy_iret X hr hlk Z (zEnd hf18) dX7_tell_11
def f_X7_text  (σ : zg_S) : Option (Int32 × zg_S) := zbd (f_X7_parse σ) (fun (r1 : Int32) (σ2 : zg_S) => (if 0 ≤ r1 then (if (σ2 1 1) = 14 then some ((-1000000003), σ2) else zbd (f_X7_textAt (σ2 1 1) σ2) (fun (r14 : Int32) (σ15 : zg_S) => (if zin (r14 + 0) 3047 = true then zlet (zg_up σ15 1 (Int32.toNatClampNeg (r14 + 0)) r1) (fun (σ26 : zg_S) => (if zin (r14 + 1) 3047 = true then zlet (zg_up σ26 1 (Int32.toNatClampNeg (r14 + 1)) (σ26 0 24)) (fun (σ35 : zg_S) => (if zin (r14 + 2) 3047 = true then zlet (zg_up σ35 1 (Int32.toNatClampNeg (r14 + 2)) (σ35 0 22)) (fun (σ44 : zg_S) => zlet (zg_up σ44 1 1 ((σ44 1 1) + 1)) (fun (σ50 : zg_S) => some ((σ50 1 1) - 1, σ50))) else none)) else none)) else none))) else some ((-100) - (σ2 0 15), σ2)))
set_option maxHeartbeats 4000000 in
set_option maxRecDepth 100000 in
theorem c_X7_text (l : Launch) (D : va_G) (V : zz_V) (ad : Nat → Nat) (cA : Nat → ClassId)   (σ : zg_S) (r0 : Int32) (σf : zg_S) (hf : f_X7_text  σ = some (r0, σf)) : zM_I l yX7_text wsX7_text 133 2927 D V ML ad cA [.ref (ad 0)] σ r0 σf := by
  intro sz
  refine Met.ofW (cc := cX7_text) (maxL := 3) (ret := (some .int)) (by decide) rfl ?_
  intro p e s m args below meth c s₁ B hml hv
  obtain ⟨rfl, hC⟩ := hv
  have hx := B.exec
  have hb := B.bytes
  have hr := B.returns
  have hts := atoms_spec (ws := wsX7_text) B.pre
  have hown : s.vm.findClass RX7 = some m.cls := findClass_of_methodNamed B.named
  have hlk := B.notSynchronized
  have X : CallFix p m c cX7_text 3 s _ wsX7_text RX7 := ⟨hx, hb, hml, hown, hts⟩
  have Z := zz_enter hC
  generalize va_A (zg_W ML ad cA σ) sz = A at Z ⊢
  have hl := lv_entry ([.ref (ad 0)]) (n := 3) (Nat.le_of_ble_eq_true rfl)
  rw [lg_entry_eq]
  generalize (lg_sl ([.ref (ad 0)]) ++ List.replicate (3 - (lg_sl ([.ref (ad 0)])).length) Slot.unset).toArray = ls at hl ⊢
  have hl : lv_has ls 3 [(0, .ref (ad 0))] := hl
  unfold f_X7_text at hf
  refine lv_aload_n hx hb dX7_text_0 rfl (lv_at hl 0 rfl) ?_
  obtain ⟨r1, σ2, hc3, hf4⟩ := zBd hf
  clear hf
  refine zy_ci (r0 := r1) (WS1 := zg_W ML ad cA σ2) (TYS1 := zg_T ML cA) Z (va_runV (As := []) (rest := []) X (c_X7_parse l D V ad cA  σ r1 σ2 hc3 s.heap.size) (cwV 0 hts gX7_text_X7_parse rfl rfl rfl ⟨rfl, zh_X7_parse⟩ ⟨Nat.le_of_ble_eq_true rfl, Nat.le_of_ble_eq_true rfl⟩) (zy_pV (ci := 7) Z mL_ok mk_0 rfl rfl) rfl rfl hl.1 rfl (lv_room (Nat.le_of_ble_eq_true rfl)) dX7_text_1 ⟨Nat.le_of_ble_eq_true rfl, Nat.le_of_ble_eq_true rfl⟩) (fun H5 lo6 Z7 => ?_)
  clear Z hc3
  refine lv_istore_n (lv' := [(1, .int r1), (0, .ref (ad 0))]) hx hb dX7_text_4 rfl hl (by decide) rfl (fun ls9 hl8 => ?_)
  clear hl
  refine lv_iload_n hx hb dX7_text_5 rfl (lv_at hl8 0 rfl) ?_
  refine lv_if_ge (tgt := 17) hx hb dX7_text_6 (by decide) (fun b10 => ?_) (fun b10 => ?_)
  · have hf11 := zYes hf4 b10
    clear hf4
    refine lv_aload_n hx hb dX7_text_17 rfl (lv_at hl8 1 rfl) ?_
    refine zy_get (v := .ref (ad 1)) X Z7 mL_ok mk_0 rfl rfl (fun w h => List.mem_cons_of_mem _ (List.mem_append_right _ h)) 0 rfl (zz_m 2 rfl) rfl dX7_text_18 ?_
    refine lv_iconst (v := 1) hx hb dX7_text_21 (by decide) ?_
    refine zy_ild X Z7 mL_ok mk_1 ml_1 (zz_in 1 3047 rfl) dX7_text_22 ?_
    refine zz_v (v := σ2 1 1) rfl ?_
    refine lv_bipush (v := 14) hx hb dX7_text_23 (by decide) ?_
    refine lv_icmp_ne (tgt := 31) hx hb dX7_text_25 (by decide) (fun b12 => ?_) (fun b12 => ?_)
    · have hf13 := zNot hf11 b12
      clear hf11
      refine lv_aload_n hx hb dX7_text_31 rfl (lv_at hl8 1 rfl) ?_
      refine lv_aload_n hx hb dX7_text_32 rfl (lv_at hl8 1 rfl) ?_
      refine zy_get (v := .ref (ad 1)) X Z7 mL_ok mk_0 rfl rfl (fun w h => List.mem_cons_of_mem _ (List.mem_append_right _ h)) 0 rfl (zz_m 2 rfl) rfl dX7_text_33 ?_
      refine lv_iconst (v := 1) hx hb dX7_text_36 (by decide) ?_
      refine zy_ild X Z7 mL_ok mk_1 ml_1 (zz_in 1 3047 rfl) dX7_text_37 ?_
      refine zz_v (v := σ2 1 1) rfl ?_
      obtain ⟨r14, σ15, hc16, hf17⟩ := zBd hf13
      clear hf13
      refine zy_ci (r0 := r14) (WS1 := zg_W ML ad cA σ15) (TYS1 := zg_T ML cA) Z7 (va_runV (As := [.int (σ2 1 1)]) (rest := []) X (c_X7_textAt l D V ad cA (σ2 1 1) σ2 r14 σ15 hc16 H5.size) (cwV 1 hts gX7_text_X7_textAt rfl rfl rfl ⟨rfl, zh_X7_textAt⟩ ⟨Nat.le_of_ble_eq_true rfl, Nat.le_of_ble_eq_true rfl⟩) (zy_pV (ci := 7) Z7 mL_ok mk_0 rfl rfl) rfl rfl hl8.1 rfl (lv_room (Nat.le_of_ble_eq_true rfl)) dX7_text_38 ⟨Nat.le_of_ble_eq_true rfl, Nat.le_of_ble_eq_true rfl⟩) (fun H18 lo19 Z20 => ?_)
      clear Z7 hc16
      refine lv_istore_n (lv' := [(2, .int r14), (1, .int r1), (0, .ref (ad 0))]) hx hb dX7_text_41 rfl hl8 (by decide) rfl (fun ls22 hl21 => ?_)
      clear hl8
      refine lv_aload_n hx hb dX7_text_42 rfl (lv_at hl21 2 rfl) ?_
      refine zy_get (v := .ref (ad 1)) X Z20 mL_ok mk_0 rfl rfl (fun w h => List.mem_cons_of_mem _ (List.mem_append_right _ h)) 0 rfl (zz_m 2 rfl) rfl dX7_text_43 ?_
      refine lv_iload_n hx hb dX7_text_46 rfl (lv_at hl21 0 rfl) ?_
      refine lv_iconst (v := 0) hx hb dX7_text_47 (by decide) ?_
      refine lv_iadd hx hb dX7_text_48 ?_
      refine lv_iload_n hx hb dX7_text_49 rfl (lv_at hl21 1 rfl) ?_
      obtain ⟨⟨i23, j24⟩, hf25⟩ := zG hf17
      clear hf17
      obtain ⟨σ26, es27, hf28⟩ := zLet hf25
      clear hf25
      refine zy_ist (σ' := σ26) X Z20 mL_ok mk_1 ml_1 i23 es27 dX7_text_50 (fun H29 lo30 Z31 => ?_)
      clear Z20 es27
      refine lv_aload_n hx hb dX7_text_51 rfl (lv_at hl21 2 rfl) ?_
      refine zy_get (v := .ref (ad 1)) X Z31 mL_ok mk_0 rfl rfl (fun w h => List.mem_cons_of_mem _ (List.mem_append_right _ h)) 0 rfl (zz_m 2 rfl) rfl dX7_text_52 ?_
      refine lv_iload_n hx hb dX7_text_55 rfl (lv_at hl21 0 rfl) ?_
      refine lv_iconst (v := 1) hx hb dX7_text_56 (by decide) ?_
      refine lv_iadd hx hb dX7_text_57 ?_
      refine lv_aload_n hx hb dX7_text_58 rfl (lv_at hl21 2 rfl) ?_
      refine zy_get (v := .int (σ26 0 24)) X Z31 mL_ok mk_0 rfl rfl (fun w h => List.mem_cons_of_mem _ (List.mem_append_right _ h)) 24 rfl (zz_m 4 rfl) rfl dX7_text_59 ?_
      obtain ⟨⟨i32, j33⟩, hf34⟩ := zG hf28
      clear hf28
      obtain ⟨σ35, es36, hf37⟩ := zLet hf34
      clear hf34
      refine zy_ist (σ' := σ35) X Z31 mL_ok mk_1 ml_1 i32 es36 dX7_text_62 (fun H38 lo39 Z40 => ?_)
      clear Z31 es36
      refine lv_aload_n hx hb dX7_text_63 rfl (lv_at hl21 2 rfl) ?_
      refine zy_get (v := .ref (ad 1)) X Z40 mL_ok mk_0 rfl rfl (fun w h => List.mem_cons_of_mem _ (List.mem_append_right _ h)) 0 rfl (zz_m 2 rfl) rfl dX7_text_64 ?_
      refine lv_iload_n hx hb dX7_text_67 rfl (lv_at hl21 0 rfl) ?_
      refine lv_iconst (v := 2) hx hb dX7_text_68 (by decide) ?_
      refine lv_iadd hx hb dX7_text_69 ?_
      refine lv_aload_n hx hb dX7_text_70 rfl (lv_at hl21 2 rfl) ?_
      refine zy_get (v := .int (σ35 0 22)) X Z40 mL_ok mk_0 rfl rfl (fun w h => List.mem_cons_of_mem _ (List.mem_append_right _ h)) 22 rfl (zz_m 5 rfl) rfl dX7_text_71 ?_
      obtain ⟨⟨i41, j42⟩, hf43⟩ := zG hf37
      clear hf37
      obtain ⟨σ44, es45, hf46⟩ := zLet hf43
      clear hf43
      refine zy_ist (σ' := σ44) X Z40 mL_ok mk_1 ml_1 i41 es45 dX7_text_74 (fun H47 lo48 Z49 => ?_)
      clear Z40 es45
      refine lv_aload_n hx hb dX7_text_75 rfl (lv_at hl21 2 rfl) ?_
      refine zy_get (v := .ref (ad 1)) X Z49 mL_ok mk_0 rfl rfl (fun w h => List.mem_cons_of_mem _ (List.mem_append_right _ h)) 0 rfl (zz_m 2 rfl) rfl dX7_text_76 ?_
      refine lv_iconst (v := 1) hx hb dX7_text_79 (by decide) ?_
      refine lv_dup2_11 hx hb dX7_text_80 rfl rfl ?_
      refine zy_ild X Z49 mL_ok mk_1 ml_1 (zz_in 1 3047 rfl) dX7_text_81 ?_
      refine zz_v (v := σ44 1 1) rfl ?_
      refine lv_iconst (v := 1) hx hb dX7_text_82 (by decide) ?_
      refine lv_iadd hx hb dX7_text_83 ?_
      obtain ⟨σ50, es51, hf52⟩ := zLet hf46
      clear hf46
      refine zy_ist (σ' := σ50) X Z49 mL_ok mk_1 ml_1 (zz_in 1 3047 rfl) es51 dX7_text_84 (fun H53 lo54 Z55 => ?_)
      clear Z49 es51
      refine lv_aload_n hx hb dX7_text_85 rfl (lv_at hl21 2 rfl) ?_
      refine zy_get (v := .ref (ad 1)) X Z55 mL_ok mk_0 rfl rfl (fun w h => List.mem_cons_of_mem _ (List.mem_append_right _ h)) 0 rfl (zz_m 2 rfl) rfl dX7_text_86 ?_
      refine lv_iconst (v := 1) hx hb dX7_text_89 (by decide) ?_
      refine zy_ild X Z55 mL_ok mk_1 ml_1 (zz_in 1 3047 rfl) dX7_text_90 ?_
      refine zz_v (v := σ50 1 1) rfl ?_
      refine lv_iconst (v := 1) hx hb dX7_text_91 (by decide) ?_
      refine lv_isub hx hb dX7_text_92 ?_
      exact zy_iret X hr hlk Z55 (zEnd hf52) dX7_text_93
    · have hf56 := zYes hf11 b12
      clear hf11
      refine lv_ldc (v := (-1000000003)) hx hb hown (hts _ (zz_m 3 rfl)) dX7_text_28 ?_
      exact zy_iret X hr hlk Z7 (zEnd hf56) dX7_text_30
  · have hf57 := zNot hf4 b10
    clear hf4
    refine lv_bipush (v := (-100)) hx hb dX7_text_9 (by decide) ?_
    refine lv_aload_n hx hb dX7_text_11 rfl (lv_at hl8 1 rfl) ?_
    refine zy_get (v := .int (σ2 0 15)) X Z7 mL_ok mk_0 rfl rfl (fun w h => List.mem_cons_of_mem _ (List.mem_append_right _ h)) 15 rfl (zz_m 1 rfl) rfl dX7_text_12 ?_
    refine lv_isub hx hb dX7_text_15 ?_
    exact zy_iret X hr hlk Z7 (zEnd hf57) dX7_text_16
def f_X7_textTold (a1 : Int32) (a2 : Int32) (σ : zg_S) : Option (Int32 × zg_S) := zbd (f_X7_isText a1 σ) (fun (r1 : Int32) (σ2 : zg_S) => (if r1 = 0 then some ((-1000000001), σ2) else zbd (f_X7_isIn (Int32.toInt64 a2) (Int32.toInt64 0) (Int32.toInt64 1) σ2) (fun (r11 : Int32) (σ12 : zg_S) => (if r11 = 0 then some ((-1000000001), σ12) else zbd (f_X7_textAt a1 σ12) (fun (r20 : Int32) (σ21 : zg_S) => (if zin (r20 + a2) 3047 = true then some (σ21 1 (Int32.toNatClampNeg (r20 + a2)), σ21) else none))))))
set_option maxHeartbeats 4000000 in
set_option maxRecDepth 100000 in
theorem c_X7_textTold (l : Launch) (D : va_G) (V : zz_V) (ad : Nat → Nat) (cA : Nat → ClassId) (a1 : Int32) (a2 : Int32)  (σ : zg_S) (r0 : Int32) (σf : zg_S) (hf : f_X7_textTold a1 a2 σ = some (r0, σf)) : zM_I l yX7_textTold wsX7_textTold 2 46 D V ML ad cA [.ref (ad 0), .int a1, .int a2] σ r0 σf := by
  intro sz
  refine Met.ofW (cc := cX7_textTold) (maxL := 3) (ret := (some .int)) (by decide) rfl ?_
  intro p e s m args below meth c s₁ B hml hv
  obtain ⟨rfl, hC⟩ := hv
  have hx := B.exec
  have hb := B.bytes
  have hr := B.returns
  have hts := atoms_spec (ws := wsX7_textTold) B.pre
  have hown : s.vm.findClass RX7 = some m.cls := findClass_of_methodNamed B.named
  have hlk := B.notSynchronized
  have X : CallFix p m c cX7_textTold 3 s _ wsX7_textTold RX7 := ⟨hx, hb, hml, hown, hts⟩
  have Z := zz_enter hC
  generalize va_A (zg_W ML ad cA σ) sz = A at Z ⊢
  have hl := lv_entry ([.ref (ad 0), .int a1, .int a2]) (n := 3) (Nat.le_of_ble_eq_true rfl)
  rw [lg_entry_eq]
  generalize (lg_sl ([.ref (ad 0), .int a1, .int a2]) ++ List.replicate (3 - (lg_sl ([.ref (ad 0), .int a1, .int a2])).length) Slot.unset).toArray = ls at hl ⊢
  have hl : lv_has ls 3 [(0, .ref (ad 0)), (1, .int a1), (2, .int a2)] := hl
  unfold f_X7_textTold at hf
  refine lv_aload_n hx hb dX7_textTold_0 rfl (lv_at hl 0 rfl) ?_
  refine lv_iload_n hx hb dX7_textTold_1 rfl (lv_at hl 1 rfl) ?_
  obtain ⟨r1, σ2, hc3, hf4⟩ := zBd hf
  clear hf
  refine zy_ci (r0 := r1) (WS1 := zg_W ML ad cA σ2) (TYS1 := zg_T ML cA) Z (va_runV (As := [.int a1]) (rest := []) X (c_X7_isText l D V ad cA a1 σ r1 σ2 hc3 s.heap.size) (cwV 1 hts gX7_textTold_X7_isText rfl rfl rfl ⟨rfl, zh_X7_isText⟩ ⟨Nat.le_of_ble_eq_true rfl, Nat.le_of_ble_eq_true rfl⟩) (zy_pV (ci := 7) Z mL_ok mk_0 rfl rfl) rfl rfl hl.1 rfl (lv_room (Nat.le_of_ble_eq_true rfl)) dX7_textTold_2 ⟨Nat.le_of_ble_eq_true rfl, Nat.le_of_ble_eq_true rfl⟩) (fun H5 lo6 Z7 => ?_)
  clear Z hc3
  refine lv_if_eq (tgt := 18) hx hb dX7_textTold_5 (by decide) (fun b8 => ?_) (fun b8 => ?_)
  · have hf9 := zYes hf4 b8
    clear hf4
    refine lv_ldc (v := (-1000000001)) hx hb hown (hts _ (zz_m 1 rfl)) dX7_textTold_18 ?_
    exact zy_iret X hr hlk Z7 (zEnd hf9) dX7_textTold_20
  · have hf10 := zNot hf4 b8
    clear hf4
    refine lv_iload_n hx hb dX7_textTold_8 rfl (lv_at hl 2 rfl) ?_
    refine lv_i2l (v := Int32.toInt64 a2) hx hb dX7_textTold_9 rfl ?_
    refine lv_lconst (v := 0) hx hb dX7_textTold_10 (by decide) ?_
    refine zz_vl (v := Int32.toInt64 0) (by decide) ?_
    refine lv_lconst (v := 1) hx hb dX7_textTold_11 (by decide) ?_
    refine zz_vl (v := Int32.toInt64 1) (by decide) ?_
    obtain ⟨r11, σ12, hc13, hf14⟩ := zBd hf10
    clear hf10
    refine zy_ci (r0 := r11) (WS1 := zg_W ML ad cA σ12) (TYS1 := zg_T ML cA) Z7 (va_runS (As := [.long (Int32.toInt64 a2), .long (Int32.toInt64 0), .long (Int32.toInt64 1)]) (rest := []) X (c_X7_isIn l D V ad cA (Int32.toInt64 a2) (Int32.toInt64 0) (Int32.toInt64 1) σ2 r11 σ12 hc13 H5.size) (va_cwS 3 hts gX7_textTold_X7_isIn rfl rfl rfl zh_X7_isIn ⟨Nat.le_of_ble_eq_true rfl, Nat.le_of_ble_eq_true rfl⟩) (zz_pS Z7) rfl rfl hl.1 rfl (lv_room (Nat.le_of_ble_eq_true rfl)) dX7_textTold_12 ⟨Nat.le_of_ble_eq_true rfl, Nat.le_of_ble_eq_true rfl⟩) (fun H15 lo16 Z17 => ?_)
    clear Z7 hc13
    refine lv_if_ne (tgt := 21) hx hb dX7_textTold_15 (by decide) (fun b18 => ?_) (fun b18 => ?_)
    · have hf19 := zNot hf14 b18
      clear hf14
      refine lv_aload_n hx hb dX7_textTold_21 rfl (lv_at hl 0 rfl) ?_
      refine zy_get (v := .ref (ad 1)) X Z17 mL_ok mk_0 rfl rfl (fun w h => List.mem_cons_of_mem _ (List.mem_append_right _ h)) 0 rfl (zz_m 2 rfl) rfl dX7_textTold_22 ?_
      refine lv_aload_n hx hb dX7_textTold_25 rfl (lv_at hl 0 rfl) ?_
      refine lv_iload_n hx hb dX7_textTold_26 rfl (lv_at hl 1 rfl) ?_
      obtain ⟨r20, σ21, hc22, hf23⟩ := zBd hf19
      clear hf19
      refine zy_ci (r0 := r20) (WS1 := zg_W ML ad cA σ21) (TYS1 := zg_T ML cA) Z17 (va_runV (As := [.int a1]) (rest := [.ref (ad 1)]) X (c_X7_textAt l D V ad cA a1 σ12 r20 σ21 hc22 H15.size) (cwV 1 hts gX7_textTold_X7_textAt rfl rfl rfl ⟨rfl, zh_X7_textAt⟩ ⟨Nat.le_of_ble_eq_true rfl, Nat.le_of_ble_eq_true rfl⟩) (zy_pV (ci := 7) Z17 mL_ok mk_0 rfl rfl) rfl rfl hl.1 rfl (lv_room (Nat.le_of_ble_eq_true rfl)) dX7_textTold_27 ⟨Nat.le_of_ble_eq_true rfl, Nat.le_of_ble_eq_true rfl⟩) (fun H24 lo25 Z26 => ?_)
      clear Z17 hc22
      refine lv_iload_n hx hb dX7_textTold_30 rfl (lv_at hl 2 rfl) ?_
      refine lv_iadd hx hb dX7_textTold_31 ?_
      obtain ⟨⟨i27, j28⟩, hf29⟩ := zG hf23
      clear hf23
      refine zy_ild X Z26 mL_ok mk_1 ml_1 i27 dX7_textTold_32 ?_
      exact zy_iret X hr hlk Z26 (zEnd hf29) dX7_textTold_33
    · have hf30 := zYes hf14 b18
      clear hf14
      refine lv_ldc (v := (-1000000001)) hx hb hown (hts _ (zz_m 1 rfl)) dX7_textTold_18 ?_
      exact zy_iret X hr hlk Z17 (zEnd hf30) dX7_textTold_20
def B_X7_told_56 (a1 : Int32) (a2 : Int32) (σ : zg_S) : Option (Int32 × zg_S) := zbd (f_X7_of a1 a2 σ) (fun (r1 : Int32) (σ2 : zg_S) => some (r1, σ2))
def f_X7_told (a1 : Int32) (a2 : Int32) (σ : zg_S) : Option (Int32 × zg_S) := zbd (f_X7_isStall a1 σ) (fun (r8 : Int32) (σ9 : zg_S) => (if r8 = 0 then some ((-1000000001), σ9) else (if a2 = 0 then B_X7_told_56 a1 a2 σ9 else (if a2 = 1 then B_X7_told_56 a1 a2 σ9 else (if a2 = 2 then B_X7_told_56 a1 a2 σ9 else (if a2 = 3 then B_X7_told_56 a1 a2 σ9 else (if a2 = 4 then zbd (f_X7_spoils a1 σ9) (fun (r31 : Int32) (σ32 : zg_S) => some (r31, σ32)) else (if a2 = 5 then zbd (f_X7_isShaded a1 σ9) (fun (r41 : Int32) (σ42 : zg_S) => (if r41 = 0 then some (0, σ42) else some (1, σ42))) else (if a2 = 6 then zbd (f_X7_worth a1 σ9) (fun (r54 : Int32) (σ55 : zg_S) => some (r54, σ55)) else some ((-1000000001), σ9))))))))))
set_option maxHeartbeats 4000000 in
set_option maxRecDepth 100000 in
theorem c_X7_told (l : Launch) (D : va_G) (V : zz_V) (ad : Nat → Nat) (cA : Nat → ClassId) (a1 : Int32) (a2 : Int32)  (σ : zg_S) (r0 : Int32) (σf : zg_S) (hf : f_X7_told a1 a2 σ = some (r0, σf)) : zM_I l yX7_told wsX7_told 4 91 D V ML ad cA [.ref (ad 0), .int a1, .int a2] σ r0 σf := by
  intro sz
  refine Met.ofW (cc := cX7_told) (maxL := 3) (ret := (some .int)) (by decide) rfl ?_
  intro p e s m args below meth c s₁ B hml hv
  obtain ⟨rfl, hC⟩ := hv
  have hx := B.exec
  have hb := B.bytes
  have hr := B.returns
  have hts := atoms_spec (ws := wsX7_told) B.pre
  have hown : s.vm.findClass RX7 = some m.cls := findClass_of_methodNamed B.named
  have hlk := B.notSynchronized
  have X : CallFix p m c cX7_told 3 s _ wsX7_told RX7 := ⟨hx, hb, hml, hown, hts⟩
  have Z := zz_enter hC
  generalize va_A (zg_W ML ad cA σ) sz = A at Z ⊢
  have hl := lv_entry ([.ref (ad 0), .int a1, .int a2]) (n := 3) (Nat.le_of_ble_eq_true rfl)
  rw [lg_entry_eq]
  generalize (lg_sl ([.ref (ad 0), .int a1, .int a2]) ++ List.replicate (3 - (lg_sl ([.ref (ad 0), .int a1, .int a2])).length) Slot.unset).toArray = ls at hl ⊢
  have hl : lv_has ls 3 [(0, .ref (ad 0)), (1, .int a1), (2, .int a2)] := hl
  unfold f_X7_told at hf
  have b56_ : ∀ (σ : zg_S), B_X7_told_56 a1 a2  σ = some (r0, σf) → ∀ (H : Heap) (locs : List Loc) (ls : Array Slot), zz_S D V A s (zg_W ML ad cA σ) (zg_T ML cA) H locs → lv_has ls 3 [(0, .ref (ad 0)), (1, .int a1), (2, .int a2)] → W p l e (headSpec wsX7_told { frames := 4, cells := 0, slots := 0, locals := 91 }).room s m (List.toArray [.ref (ad 0), .int a1, .int a2]) below meth c H locs 0 0 (MQ below (va_Qi (fun r (_ : Unit) => r = r0) (fun _ t => zz_B D A (zg_W ML ad cA σf) (zg_T ML cA) t) A) (List.toArray [.ref (ad 0), .int a1, .int a2]) s 0 0 A) (F0 m 56 ls []) := by
    intro σ hf56_ H56_ locs56_ ls56_ Z56_ hl56_
    unfold B_X7_told_56 at hf56_
    refine lv_aload_n hx hb dX7_told_56 rfl (lv_at hl56_ 0 rfl) ?_
    refine lv_iload_n hx hb dX7_told_57 rfl (lv_at hl56_ 1 rfl) ?_
    refine lv_iload_n hx hb dX7_told_58 rfl (lv_at hl56_ 2 rfl) ?_
    obtain ⟨r1, σ2, hc3, hf4⟩ := zBd hf56_
    clear hf56_
    refine zy_ci (r0 := r1) (WS1 := zg_W ML ad cA σ2) (TYS1 := zg_T ML cA) Z56_ (va_runV (As := [.int a1, .int a2]) (rest := []) X (c_X7_of l D V ad cA a1 a2 σ r1 σ2 hc3 H56_.size) (cwV 2 hts gX7_told_X7_of rfl rfl rfl ⟨rfl, zh_X7_of⟩ ⟨Nat.le_of_ble_eq_true rfl, Nat.le_of_ble_eq_true rfl⟩) (zy_pV (ci := 7) Z56_ mL_ok mk_0 rfl rfl) rfl rfl hl56_.1 rfl (lv_room (Nat.le_of_ble_eq_true rfl)) dX7_told_59 ⟨Nat.le_of_ble_eq_true rfl, Nat.le_of_ble_eq_true rfl⟩) (fun H5 lo6 Z7 => ?_)
    clear Z56_ hc3
    exact zy_iret X hr hlk Z7 (zEnd hf4) dX7_told_62
  refine lv_aload_n hx hb dX7_told_0 rfl (lv_at hl 0 rfl) ?_
  refine lv_iload_n hx hb dX7_told_1 rfl (lv_at hl 1 rfl) ?_
  obtain ⟨r8, σ9, hc10, hf11⟩ := zBd hf
  clear hf
  refine zy_ci (r0 := r8) (WS1 := zg_W ML ad cA σ9) (TYS1 := zg_T ML cA) Z (va_runV (As := [.int a1]) (rest := []) X (c_X7_isStall l D V ad cA a1 σ r8 σ9 hc10 s.heap.size) (cwV 1 hts gX7_told_X7_isStall rfl rfl rfl ⟨rfl, zh_X7_isStall⟩ ⟨Nat.le_of_ble_eq_true rfl, Nat.le_of_ble_eq_true rfl⟩) (zy_pV (ci := 7) Z mL_ok mk_0 rfl rfl) rfl rfl hl.1 rfl (lv_room (Nat.le_of_ble_eq_true rfl)) dX7_told_2 ⟨Nat.le_of_ble_eq_true rfl, Nat.le_of_ble_eq_true rfl⟩) (fun H12 lo13 Z14 => ?_)
  clear Z hc10
  refine lv_if_ne (tgt := 11) hx hb dX7_told_5 (by decide) (fun b15 => ?_) (fun b15 => ?_)
  · have hf16 := zNot hf11 b15
    clear hf11
    refine lv_iload_n hx hb dX7_told_11 rfl (lv_at hl 2 rfl) ?_
    by_cases w17 : a2 = 0
    · have hf18 := zYes hf16 w17
      clear hf16
      refine zz_v w17 ?_
      refine lv_tableIn (x := 0) (off := 44) (tgt := 56) hx hb dX7_told_12 (by decide) (by decide) rfl (by decide) ?_
      exact b56_ σ9 hf18 _ _ _ Z14 (lv_sub hl [0, 1, 2] rfl)
    · have hf19 := zNot hf16 w17
      clear hf16
      by_cases w20 : a2 = 1
      · have hf21 := zYes hf19 w20
        clear hf19
        refine zz_v w20 ?_
        refine lv_tableIn (x := 1) (off := 44) (tgt := 56) hx hb dX7_told_12 (by decide) (by decide) rfl (by decide) ?_
        exact b56_ σ9 hf21 _ _ _ Z14 (lv_sub hl [0, 1, 2] rfl)
      · have hf22 := zNot hf19 w20
        clear hf19
        by_cases w23 : a2 = 2
        · have hf24 := zYes hf22 w23
          clear hf22
          refine zz_v w23 ?_
          refine lv_tableIn (x := 2) (off := 44) (tgt := 56) hx hb dX7_told_12 (by decide) (by decide) rfl (by decide) ?_
          exact b56_ σ9 hf24 _ _ _ Z14 (lv_sub hl [0, 1, 2] rfl)
        · have hf25 := zNot hf22 w23
          clear hf22
          by_cases w26 : a2 = 3
          · have hf27 := zYes hf25 w26
            clear hf25
            refine zz_v w26 ?_
            refine lv_tableIn (x := 3) (off := 44) (tgt := 56) hx hb dX7_told_12 (by decide) (by decide) rfl (by decide) ?_
            exact b56_ σ9 hf27 _ _ _ Z14 (lv_sub hl [0, 1, 2] rfl)
          · have hf28 := zNot hf25 w26
            clear hf25
            by_cases w29 : a2 = 4
            · have hf30 := zYes hf28 w29
              clear hf28
              refine zz_v w29 ?_
              refine lv_tableIn (x := 4) (off := 51) (tgt := 63) hx hb dX7_told_12 (by decide) (by decide) rfl (by decide) ?_
              refine lv_aload_n hx hb dX7_told_63 rfl (lv_at hl 0 rfl) ?_
              refine lv_iload_n hx hb dX7_told_64 rfl (lv_at hl 1 rfl) ?_
              obtain ⟨r31, σ32, hc33, hf34⟩ := zBd hf30
              clear hf30
              refine zy_ci (r0 := r31) (WS1 := zg_W ML ad cA σ32) (TYS1 := zg_T ML cA) Z14 (va_runV (As := [.int a1]) (rest := []) X (c_X7_spoils l D V ad cA a1 σ9 r31 σ32 hc33 H12.size) (cwV 1 hts gX7_told_X7_spoils rfl rfl rfl ⟨rfl, zh_X7_spoils⟩ ⟨Nat.le_of_ble_eq_true rfl, Nat.le_of_ble_eq_true rfl⟩) (zy_pV (ci := 7) Z14 mL_ok mk_0 rfl rfl) rfl rfl hl.1 rfl (lv_room (Nat.le_of_ble_eq_true rfl)) dX7_told_65 ⟨Nat.le_of_ble_eq_true rfl, Nat.le_of_ble_eq_true rfl⟩) (fun H35 lo36 Z37 => ?_)
              clear Z14 hc33
              exact zy_iret X hr hlk Z37 (zEnd hf34) dX7_told_68
            · have hf38 := zNot hf28 w29
              clear hf28
              by_cases w39 : a2 = 5
              · have hf40 := zYes hf38 w39
                clear hf38
                refine zz_v w39 ?_
                refine lv_tableIn (x := 5) (off := 57) (tgt := 69) hx hb dX7_told_12 (by decide) (by decide) rfl (by decide) ?_
                refine lv_aload_n hx hb dX7_told_69 rfl (lv_at hl 0 rfl) ?_
                refine lv_iload_n hx hb dX7_told_70 rfl (lv_at hl 1 rfl) ?_
                obtain ⟨r41, σ42, hc43, hf44⟩ := zBd hf40
                clear hf40
                refine zy_ci (r0 := r41) (WS1 := zg_W ML ad cA σ42) (TYS1 := zg_T ML cA) Z14 (va_runV (As := [.int a1]) (rest := []) X (c_X7_isShaded l D V ad cA a1 σ9 r41 σ42 hc43 H12.size) (cwV 1 hts gX7_told_X7_isShaded rfl rfl rfl ⟨rfl, zh_X7_isShaded⟩ ⟨Nat.le_of_ble_eq_true rfl, Nat.le_of_ble_eq_true rfl⟩) (zy_pV (ci := 7) Z14 mL_ok mk_0 rfl rfl) rfl rfl hl.1 rfl (lv_room (Nat.le_of_ble_eq_true rfl)) dX7_told_71 ⟨Nat.le_of_ble_eq_true rfl, Nat.le_of_ble_eq_true rfl⟩) (fun H45 lo46 Z47 => ?_)
                clear Z14 hc43
                refine lv_if_eq (tgt := 81) hx hb dX7_told_74 (by decide) (fun b48 => ?_) (fun b48 => ?_)
                · have hf49 := zYes hf44 b48
                  clear hf44
                  refine lv_iconst (v := 0) hx hb dX7_told_81 (by decide) ?_
                  exact zy_iret X hr hlk Z47 (zEnd hf49) dX7_told_82
                · have hf50 := zNot hf44 b48
                  clear hf44
                  refine lv_iconst (v := 1) hx hb dX7_told_77 (by decide) ?_
                  refine lv_goto (tgt := 82) hx hb dX7_told_78 (by decide) ?_
                  exact zy_iret X hr hlk Z47 (zEnd hf50) dX7_told_82
              · have hf51 := zNot hf38 w39
                clear hf38
                by_cases w52 : a2 = 6
                · have hf53 := zYes hf51 w52
                  clear hf51
                  refine zz_v w52 ?_
                  refine lv_tableIn (x := 6) (off := 71) (tgt := 83) hx hb dX7_told_12 (by decide) (by decide) rfl (by decide) ?_
                  refine lv_aload_n hx hb dX7_told_83 rfl (lv_at hl 0 rfl) ?_
                  refine lv_iload_n hx hb dX7_told_84 rfl (lv_at hl 1 rfl) ?_
                  obtain ⟨r54, σ55, hc56, hf57⟩ := zBd hf53
                  clear hf53
                  refine zy_ci (r0 := r54) (WS1 := zg_W ML ad cA σ55) (TYS1 := zg_T ML cA) Z14 (va_runV (As := [.int a1]) (rest := []) X (c_X7_worth l D V ad cA a1 σ9 r54 σ55 hc56 H12.size) (cwV 1 hts gX7_told_X7_worth rfl rfl rfl ⟨rfl, zh_X7_worth⟩ ⟨Nat.le_of_ble_eq_true rfl, Nat.le_of_ble_eq_true rfl⟩) (zy_pV (ci := 7) Z14 mL_ok mk_0 rfl rfl) rfl rfl hl.1 rfl (lv_room (Nat.le_of_ble_eq_true rfl)) dX7_told_85 ⟨Nat.le_of_ble_eq_true rfl, Nat.le_of_ble_eq_true rfl⟩) (fun H58 lo59 Z60 => ?_)
                  clear Z14 hc56
                  exact zy_iret X hr hlk Z60 (zEnd hf57) dX7_told_88
                · have hf61 := zNot hf51 w52
                  clear hf51
                  have n62 := zNe (k := 0) (y := 0) (by decide) w17
                  have n63 := zNe (k := 1) (y := 1) (by decide) w20
                  have n64 := zNe (k := 2) (y := 2) (by decide) w23
                  have n65 := zNe (k := 3) (y := 3) (by decide) w26
                  have n66 := zNe (k := 4) (y := 4) (by decide) w29
                  have n67 := zNe (k := 5) (y := 5) (by decide) w39
                  have n68 := zNe (k := 6) (y := 6) (by decide) w52
                  refine lv_tableOut (tgt := 89) hx hb dX7_told_12 (by omega) (by decide) ?_
                  refine lv_ldc (v := (-1000000001)) hx hb hown (hts _ (zz_m 1 rfl)) dX7_told_89 ?_
                  exact zy_iret X hr hlk Z14 (zEnd hf61) dX7_told_91
  · have hf69 := zYes hf11 b15
    clear hf11
    refine lv_ldc (v := (-1000000001)) hx hb hown (hts _ (zz_m 1 rfl)) dX7_told_8 ?_
    exact zy_iret X hr hlk Z14 (zEnd hf69) dX7_told_10
def f_X7_trim (a1 : Int32) (σ : zg_S) : Option (Int32 × zg_S) := zbd (f_X7_isIn (Int32.toInt64 a1) (Int32.toInt64 0) (Int32.toInt64 (σ 0 14)) σ) (fun (r1 : Int32) (σ2 : zg_S) => (if r1 = 0 then some ((-1000000001), σ2) else zlet (zg_up σ2 0 14 a1) (fun (σ10 : zg_S) => some (a1, σ10))))
set_option maxHeartbeats 4000000 in
set_option maxRecDepth 100000 in
theorem c_X7_trim (l : Launch) (D : va_G) (V : zz_V) (ad : Nat → Nat) (cA : Nat → ClassId) (a1 : Int32)  (σ : zg_S) (r0 : Int32) (σf : zg_S) (hf : f_X7_trim a1 σ = some (r0, σf)) : zM_I l yX7_trim wsX7_trim 1 25 D V ML ad cA [.ref (ad 0), .int a1] σ r0 σf := by
  intro sz
  refine Met.ofW (cc := cX7_trim) (maxL := 2) (ret := (some .int)) (by decide) rfl ?_
  intro p e s m args below meth c s₁ B hml hv
  obtain ⟨rfl, hC⟩ := hv
  have hx := B.exec
  have hb := B.bytes
  have hr := B.returns
  have hts := atoms_spec (ws := wsX7_trim) B.pre
  have hown : s.vm.findClass RX7 = some m.cls := findClass_of_methodNamed B.named
  have hlk := B.notSynchronized
  have X : CallFix p m c cX7_trim 2 s _ wsX7_trim RX7 := ⟨hx, hb, hml, hown, hts⟩
  have Z := zz_enter hC
  generalize va_A (zg_W ML ad cA σ) sz = A at Z ⊢
  have hl := lv_entry ([.ref (ad 0), .int a1]) (n := 2) (Nat.le_of_ble_eq_true rfl)
  rw [lg_entry_eq]
  generalize (lg_sl ([.ref (ad 0), .int a1]) ++ List.replicate (2 - (lg_sl ([.ref (ad 0), .int a1])).length) Slot.unset).toArray = ls at hl ⊢
  have hl : lv_has ls 2 [(0, .ref (ad 0)), (1, .int a1)] := hl
  unfold f_X7_trim at hf
  refine lv_iload_n hx hb dX7_trim_0 rfl (lv_at hl 1 rfl) ?_
  refine lv_i2l (v := Int32.toInt64 a1) hx hb dX7_trim_1 rfl ?_
  refine lv_lconst (v := 0) hx hb dX7_trim_2 (by decide) ?_
  refine zz_vl (v := Int32.toInt64 0) (by decide) ?_
  refine lv_aload_n hx hb dX7_trim_3 rfl (lv_at hl 0 rfl) ?_
  refine zy_get (v := .int (σ 0 14)) X Z mL_ok mk_0 rfl rfl (fun w h => List.mem_cons_of_mem _ (List.mem_append_right _ h)) 14 rfl (zz_m 1 rfl) rfl dX7_trim_4 ?_
  refine lv_i2l (v := Int32.toInt64 (σ 0 14)) hx hb dX7_trim_7 rfl ?_
  obtain ⟨r1, σ2, hc3, hf4⟩ := zBd hf
  clear hf
  refine zy_ci (r0 := r1) (WS1 := zg_W ML ad cA σ2) (TYS1 := zg_T ML cA) Z (va_runS (As := [.long (Int32.toInt64 a1), .long (Int32.toInt64 0), .long (Int32.toInt64 (σ 0 14))]) (rest := []) X (c_X7_isIn l D V ad cA (Int32.toInt64 a1) (Int32.toInt64 0) (Int32.toInt64 (σ 0 14)) σ r1 σ2 hc3 s.heap.size) (va_cwS 3 hts gX7_trim_X7_isIn rfl rfl rfl zh_X7_isIn ⟨Nat.le_of_ble_eq_true rfl, Nat.le_of_ble_eq_true rfl⟩) (zz_pS Z) rfl rfl hl.1 rfl (lv_room (Nat.le_of_ble_eq_true rfl)) dX7_trim_8 ⟨Nat.le_of_ble_eq_true rfl, Nat.le_of_ble_eq_true rfl⟩) (fun H5 lo6 Z7 => ?_)
  clear Z hc3
  refine lv_if_ne (tgt := 17) hx hb dX7_trim_11 (by decide) (fun b8 => ?_) (fun b8 => ?_)
  · have hf9 := zNot hf4 b8
    clear hf4
    refine lv_aload_n hx hb dX7_trim_17 rfl (lv_at hl 0 rfl) ?_
    refine lv_iload_n hx hb dX7_trim_18 rfl (lv_at hl 1 rfl) ?_
    obtain ⟨σ10, es11, hf12⟩ := zLet hf9
    clear hf9
    refine zy_put (v := a1) (σ' := σ10) X Z7 mL_ok mk_0 rfl rfl (fun w h => List.mem_cons_of_mem _ (List.mem_append_right _ h)) tyX7 tyX7_ok nmX7 14 rfl (zz_m 1 rfl) rfl rfl rfl (fun _ => rfl) (fun _ => rfl) es11 dX7_trim_19 (fun H13 lo14 Z15 => ?_)
    clear Z7 es11
    refine lv_iload_n hx hb dX7_trim_22 rfl (lv_at hl 1 rfl) ?_
    exact zy_iret X hr hlk Z15 (zEnd hf12) dX7_trim_23
  · have hf16 := zYes hf4 b8
    clear hf4
    refine lv_ldc (v := (-1000000001)) hx hb hown (hts _ (zz_m 2 rfl)) dX7_trim_14 ?_
    exact zy_iret X hr hlk Z7 (zEnd hf16) dX7_trim_16
def f_X7_turns (a1 : Int32) (a2 : Int32) (σ : zg_S) : Option (Int32 × zg_S) := zbd (f_X7_isStall a1 σ) (fun (r1 : Int32) (σ2 : zg_S) => (if r1 = 0 then some ((-1000000001), σ2) else zbd (f_X7_isIn (Int32.toInt64 a2) (Int32.toInt64 0) (Int32.toInt64 5) σ2) (fun (r11 : Int32) (σ12 : zg_S) => (if r11 = 0 then some ((-1000000001), σ12) else zbd (f_X7_becomes (11 + (4 * a1)) a2 σ12) (fun (r21 : Int32) (σ22 : zg_S) => some (r21, σ22))))))
set_option maxHeartbeats 4000000 in
set_option maxRecDepth 100000 in
theorem c_X7_turns (l : Launch) (D : va_G) (V : zz_V) (ad : Nat → Nat) (cA : Nat → ClassId) (a1 : Int32) (a2 : Int32)  (σ : zg_S) (r0 : Int32) (σf : zg_S) (hf : f_X7_turns a1 a2 σ = some (r0, σf)) : zM_I l yX7_turns wsX7_turns 2 46 D V ML ad cA [.ref (ad 0), .int a1, .int a2] σ r0 σf := by
  intro sz
  refine Met.ofW (cc := cX7_turns) (maxL := 3) (ret := (some .int)) (by decide) rfl ?_
  intro p e s m args below meth c s₁ B hml hv
  obtain ⟨rfl, hC⟩ := hv
  have hx := B.exec
  have hb := B.bytes
  have hr := B.returns
  have hts := atoms_spec (ws := wsX7_turns) B.pre
  have hown : s.vm.findClass RX7 = some m.cls := findClass_of_methodNamed B.named
  have hlk := B.notSynchronized
  have X : CallFix p m c cX7_turns 3 s _ wsX7_turns RX7 := ⟨hx, hb, hml, hown, hts⟩
  have Z := zz_enter hC
  generalize va_A (zg_W ML ad cA σ) sz = A at Z ⊢
  have hl := lv_entry ([.ref (ad 0), .int a1, .int a2]) (n := 3) (Nat.le_of_ble_eq_true rfl)
  rw [lg_entry_eq]
  generalize (lg_sl ([.ref (ad 0), .int a1, .int a2]) ++ List.replicate (3 - (lg_sl ([.ref (ad 0), .int a1, .int a2])).length) Slot.unset).toArray = ls at hl ⊢
  have hl : lv_has ls 3 [(0, .ref (ad 0)), (1, .int a1), (2, .int a2)] := hl
  unfold f_X7_turns at hf
  refine lv_aload_n hx hb dX7_turns_0 rfl (lv_at hl 0 rfl) ?_
  refine lv_iload_n hx hb dX7_turns_1 rfl (lv_at hl 1 rfl) ?_
  obtain ⟨r1, σ2, hc3, hf4⟩ := zBd hf
  clear hf
  refine zy_ci (r0 := r1) (WS1 := zg_W ML ad cA σ2) (TYS1 := zg_T ML cA) Z (va_runV (As := [.int a1]) (rest := []) X (c_X7_isStall l D V ad cA a1 σ r1 σ2 hc3 s.heap.size) (cwV 1 hts gX7_turns_X7_isStall rfl rfl rfl ⟨rfl, zh_X7_isStall⟩ ⟨Nat.le_of_ble_eq_true rfl, Nat.le_of_ble_eq_true rfl⟩) (zy_pV (ci := 7) Z mL_ok mk_0 rfl rfl) rfl rfl hl.1 rfl (lv_room (Nat.le_of_ble_eq_true rfl)) dX7_turns_2 ⟨Nat.le_of_ble_eq_true rfl, Nat.le_of_ble_eq_true rfl⟩) (fun H5 lo6 Z7 => ?_)
  clear Z hc3
  refine lv_if_eq (tgt := 34) hx hb dX7_turns_5 (by decide) (fun b8 => ?_) (fun b8 => ?_)
  · have hf9 := zYes hf4 b8
    clear hf4
    refine lv_ldc (v := (-1000000001)) hx hb hown (hts _ (zz_m 2 rfl)) dX7_turns_34 ?_
    exact zy_iret X hr hlk Z7 (zEnd hf9) dX7_turns_36
  · have hf10 := zNot hf4 b8
    clear hf4
    refine lv_iload_n hx hb dX7_turns_8 rfl (lv_at hl 2 rfl) ?_
    refine lv_i2l (v := Int32.toInt64 a2) hx hb dX7_turns_9 rfl ?_
    refine lv_lconst (v := 0) hx hb dX7_turns_10 (by decide) ?_
    refine zz_vl (v := Int32.toInt64 0) (by decide) ?_
    refine lv_ldc2 (v := 5) hx hb hown (hts _ (zz_m 1 rfl)) dX7_turns_11 ?_
    refine zz_vl (v := Int32.toInt64 5) (by decide) ?_
    obtain ⟨r11, σ12, hc13, hf14⟩ := zBd hf10
    clear hf10
    refine zy_ci (r0 := r11) (WS1 := zg_W ML ad cA σ12) (TYS1 := zg_T ML cA) Z7 (va_runS (As := [.long (Int32.toInt64 a2), .long (Int32.toInt64 0), .long (Int32.toInt64 5)]) (rest := []) X (c_X7_isIn l D V ad cA (Int32.toInt64 a2) (Int32.toInt64 0) (Int32.toInt64 5) σ2 r11 σ12 hc13 H5.size) (va_cwS 3 hts gX7_turns_X7_isIn rfl rfl rfl zh_X7_isIn ⟨Nat.le_of_ble_eq_true rfl, Nat.le_of_ble_eq_true rfl⟩) (zz_pS Z7) rfl rfl hl.1 rfl (lv_room (Nat.le_of_ble_eq_true rfl)) dX7_turns_14 ⟨Nat.le_of_ble_eq_true rfl, Nat.le_of_ble_eq_true rfl⟩) (fun H15 lo16 Z17 => ?_)
    clear Z7 hc13
    refine lv_if_eq (tgt := 34) hx hb dX7_turns_17 (by decide) (fun b18 => ?_) (fun b18 => ?_)
    · have hf19 := zYes hf14 b18
      clear hf14
      refine lv_ldc (v := (-1000000001)) hx hb hown (hts _ (zz_m 2 rfl)) dX7_turns_34 ?_
      exact zy_iret X hr hlk Z17 (zEnd hf19) dX7_turns_36
    · have hf20 := zNot hf14 b18
      clear hf14
      refine lv_aload_n hx hb dX7_turns_20 rfl (lv_at hl 0 rfl) ?_
      refine lv_bipush (v := 11) hx hb dX7_turns_21 (by decide) ?_
      refine lv_iconst (v := 4) hx hb dX7_turns_23 (by decide) ?_
      refine lv_iload_n hx hb dX7_turns_24 rfl (lv_at hl 1 rfl) ?_
      refine lv_imul hx hb dX7_turns_25 ?_
      refine lv_iadd hx hb dX7_turns_26 ?_
      refine lv_iload_n hx hb dX7_turns_27 rfl (lv_at hl 2 rfl) ?_
      obtain ⟨r21, σ22, hc23, hf24⟩ := zBd hf20
      clear hf20
      refine zy_ci (r0 := r21) (WS1 := zg_W ML ad cA σ22) (TYS1 := zg_T ML cA) Z17 (va_runV (As := [.int (11 + (4 * a1)), .int a2]) (rest := []) X (c_X7_becomes l D V ad cA (11 + (4 * a1)) a2 σ12 r21 σ22 hc23 H15.size) (cwV 2 hts gX7_turns_X7_becomes rfl rfl rfl ⟨rfl, zh_X7_becomes⟩ ⟨Nat.le_of_ble_eq_true rfl, Nat.le_of_ble_eq_true rfl⟩) (zy_pV (ci := 7) Z17 mL_ok mk_0 rfl rfl) rfl rfl hl.1 rfl (lv_room (Nat.le_of_ble_eq_true rfl)) dX7_turns_28 ⟨Nat.le_of_ble_eq_true rfl, Nat.le_of_ble_eq_true rfl⟩) (fun H25 lo26 Z27 => ?_)
      clear Z17 hc23
      refine lv_goto (tgt := 36) hx hb dX7_turns_31 (by decide) ?_
      exact zy_iret X hr hlk Z27 (zEnd hf24) dX7_turns_36
def B_X7_whose_182 (a1 : Int32) (a2 : Int32) (a3 : Int32) (rec58_ : Int32 → Int32 → Int32 → zg_S → Option (Int32 × zg_S)) (x4 : Int32) (x5 : Int32) (x6 : Int32) (σ : zg_S) : Option (Int32 × zg_S) := rec58_ x4 x5 (x6 + 1) σ
def B_X7_whose_174 (a1 : Int32) (a2 : Int32) (a3 : Int32) (rec58_ : Int32 → Int32 → Int32 → zg_S → Option (Int32 × zg_S)) (x6 : Int32) (x7 : Int32) (σ : zg_S) : Option (Int32 × zg_S) := B_X7_whose_182 a1 a2 a3 rec58_ x6 x7 x6 σ
def B_X7_whose_149 (a1 : Int32) (a2 : Int32) (a3 : Int32) (rec84_ : Int32 → Int32 → Int32 → Int32 → Int32 → zg_S → Option (Int32 × zg_S)) (x4 : Int32) (x5 : Int32) (x6 : Int32) (x8 : Int32) (y0 : Int32) (y1 : Int32) (σ : zg_S) : Option (Int32 × zg_S) := rec84_ x4 x5 x6 (y1 + y0) (x8 + 1) σ
def B_X7_whose_146 (a1 : Int32) (a2 : Int32) (a3 : Int32) (rec84_ : Int32 → Int32 → Int32 → Int32 → Int32 → zg_S → Option (Int32 × zg_S)) (x4 : Int32) (x5 : Int32) (x6 : Int32) (x8 : Int32) (y0 : Int32) (y1 : Int32) (y2 : Int32) (σ : zg_S) : Option (Int32 × zg_S) := zbd (f_X7_off y1 y0 σ) (fun (r11 : Int32) (σ12 : zg_S) => B_X7_whose_149 a1 a2 a3 rec84_ x4 x5 x6 x8 r11 y2 σ12)
def B_X7_whose_84 (a1 : Int32) (a2 : Int32) (a3 : Int32) (rec58_ : Int32 → Int32 → Int32 → zg_S → Option (Int32 × zg_S)) (rec84_ : Int32 → Int32 → Int32 → Int32 → Int32 → zg_S → Option (Int32 × zg_S)) (x4 : Int32) (x5 : Int32) (x6 : Int32) (x7 : Int32) (x8 : Int32) (σ : zg_S) : Option (Int32 × zg_S) := (if zin a1 4 = true then (if (σ 5 (Int32.toNatClampNeg a1)) ≤ x8 then zbd (f_X7_laysBack σ) (fun (r23 : Int32) (σ24 : zg_S) => (if x4 < 0 then B_X7_whose_174 a1 a2 a3 rec58_ x6 x7 σ24 else (if x5 ≤ x7 then B_X7_whose_182 a1 a2 a3 rec58_ x4 x5 x6 σ24 else B_X7_whose_174 a1 a2 a3 rec58_ x6 x7 σ24))) else (if zin ((24 * a1) + x8) 96 = true then zlet (σ 6 (Int32.toNatClampNeg ((24 * a1) + x8))) (fun (y40 : Int32) => (if y40 = (-1000000005) then B_X7_whose_149 a1 a2 a3 rec84_ x4 x5 x6 x8 0 x7 σ else (if (σ 1 0) ≤ x8 then B_X7_whose_146 a1 a2 a3 rec84_ x4 x5 x6 x8 0 y40 x7 σ else zbd (f_X7_of x8 2 σ) (fun (r50 : Int32) (σ51 : zg_S) => B_X7_whose_146 a1 a2 a3 rec84_ x4 x5 x6 x8 r50 y40 x7 σ51)))) else none)) else none)
def L_X7_whose_84 (a1 : Int32) (a2 : Int32) (a3 : Int32) (rec58_ : Int32 → Int32 → Int32 → zg_S → Option (Int32 × zg_S)) : Nat → Int32 → Int32 → Int32 → Int32 → Int32 → zg_S → Option (Int32 × zg_S) := zfix (fun _ _ _ _ _ _ => none) (B_X7_whose_84 a1 a2 a3 rec58_)
def B_X7_whose_58 (a1 : Int32) (a2 : Int32) (a3 : Int32) (rec58_ : Int32 → Int32 → Int32 → zg_S → Option (Int32 × zg_S)) (x4 : Int32) (x5 : Int32) (x6 : Int32) (σ : zg_S) : Option (Int32 × zg_S) := (if 3 ≤ x6 then (if a3 = 0 then some (x4, σ) else some (x5, σ)) else zlet (zg_up σ 1 10 x6) (fun (σ64 : zg_S) => zbd (f_X7_goesOnMany a2 σ64) (fun (r70 : Int32) (σ71 : zg_S) => L_X7_whose_84 a1 a2 a3 rec58_ zfu x4 x5 x6 0 0 σ71)))
def L_X7_whose_58 (a1 : Int32) (a2 : Int32) (a3 : Int32) : Nat → Int32 → Int32 → Int32 → zg_S → Option (Int32 × zg_S) := zfix (fun _ _ _ _ => none) (B_X7_whose_58 a1 a2 a3)
def f_X7_whose (a1 : Int32) (a2 : Int32) (a3 : Int32) (σ : zg_S) : Option (Int32 × zg_S) := zbd (f_X7_isSheet a1 σ) (fun (r81 : Int32) (σ82 : zg_S) => (if r81 = 0 then some ((-1000000001), σ82) else zbd (f_X7_isIn (Int32.toInt64 a2) (Int32.toInt64 0) (Int32.toInt64 60) σ82) (fun (r91 : Int32) (σ92 : zg_S) => (if r91 = 0 then some ((-1000000001), σ92) else zbd (f_X7_isIn (Int32.toInt64 a3) (Int32.toInt64 0) (Int32.toInt64 1) σ92) (fun (r101 : Int32) (σ102 : zg_S) => (if r101 = 0 then some ((-1000000001), σ102) else (if zin a1 4 = true then (if 0 ≤ (σ102 4 (Int32.toNatClampNeg a1)) then zbd (f_X7_laysBy σ102) (fun (r115 : Int32) (σ116 : zg_S) => L_X7_whose_58 a1 a2 a3 zfu (-1) 0 0 σ116) else some ((-1000000011), σ102)) else none)))))))
set_option maxHeartbeats 4000000 in
set_option maxRecDepth 100000 in
theorem c_X7_whose (l : Launch) (D : va_G) (V : zz_V) (ad : Nat → Nat) (cA : Nat → ClassId) (a1 : Int32) (a2 : Int32) (a3 : Int32)  (σ : zg_S) (r0 : Int32) (σf : zg_S) (hf : f_X7_whose a1 a2 a3 σ = some (r0, σf)) : zM_I l yX7_whose wsX7_whose 7 156 D V ML ad cA [.ref (ad 0), .int a1, .int a2, .int a3] σ r0 σf := by
  intro sz
  refine Met.ofW (cc := cX7_whose) (maxL := 10) (ret := (some .int)) (by decide) rfl ?_
  intro p e s m args below meth c s₁ B hml hv
  obtain ⟨rfl, hC⟩ := hv
  have hx := B.exec
  have hb := B.bytes
  have hr := B.returns
  have hts := atoms_spec (ws := wsX7_whose) B.pre
  have hown : s.vm.findClass RX7 = some m.cls := findClass_of_methodNamed B.named
  have hlk := B.notSynchronized
  have X : CallFix p m c cX7_whose 10 s _ wsX7_whose RX7 := ⟨hx, hb, hml, hown, hts⟩
  have Z := zz_enter hC
  generalize va_A (zg_W ML ad cA σ) sz = A at Z ⊢
  have hl := lv_entry ([.ref (ad 0), .int a1, .int a2, .int a3]) (n := 10) (Nat.le_of_ble_eq_true rfl)
  rw [lg_entry_eq]
  generalize (lg_sl ([.ref (ad 0), .int a1, .int a2, .int a3]) ++ List.replicate (10 - (lg_sl ([.ref (ad 0), .int a1, .int a2, .int a3])).length) Slot.unset).toArray = ls at hl ⊢
  have hl : lv_has ls 10 [(0, .ref (ad 0)), (1, .int a1), (2, .int a2), (3, .int a3)] := hl
  unfold f_X7_whose at hf
  have b58_ : ∀ (k58_ : Nat) (x4 : Int32) (x5 : Int32) (x6 : Int32) (σ : zg_S), L_X7_whose_58 a1 a2 a3 k58_ x4 x5 x6 σ = some (r0, σf) → ∀ (H : Heap) (locs : List Loc) (ls : Array Slot), zz_S D V A s (zg_W ML ad cA σ) (zg_T ML cA) H locs → lv_has ls 10 [(0, .ref (ad 0)), (1, .int a1), (2, .int a2), (3, .int a3), (4, .int x4), (5, .int x5), (6, .int x6)] → W p l e (headSpec wsX7_whose { frames := 7, cells := 0, slots := 0, locals := 156 }).room s m (List.toArray [.ref (ad 0), .int a1, .int a2, .int a3]) below meth c H locs 0 0 (MQ below (va_Qi (fun r (_ : Unit) => r = r0) (fun _ t => zz_B D A (zg_W ML ad cA σf) (zg_T ML cA) t) A) (List.toArray [.ref (ad 0), .int a1, .int a2, .int a3]) s 0 0 A) (F0 m 58 ls []) := by
    intro k58_
    induction k58_ with
    | zero =>
        intro x4 x5 x6 σ hf58_ H58_ locs58_ ls58_ Z58_ hl58_
        exact zNone hf58_
    | succ k58_ ih58_ =>
        intro x4 x5 x6 σ hf58_ H58_ locs58_ ls58_ Z58_ hl58_
        replace hf58_ : B_X7_whose_58 a1 a2 a3 (L_X7_whose_58 a1 a2 a3 k58_) x4 x5 x6 σ = some (r0, σf) := hf58_
        unfold B_X7_whose_58 at hf58_
        have b84_ : ∀ (k84_ : Nat) (x4 : Int32) (x5 : Int32) (x6 : Int32) (x7 : Int32) (x8 : Int32) (σ : zg_S), L_X7_whose_84 a1 a2 a3 (L_X7_whose_58 a1 a2 a3 k58_) k84_ x4 x5 x6 x7 x8 σ = some (r0, σf) → ∀ (H : Heap) (locs : List Loc) (ls : Array Slot), zz_S D V A s (zg_W ML ad cA σ) (zg_T ML cA) H locs → lv_has ls 10 [(0, .ref (ad 0)), (1, .int a1), (2, .int a2), (3, .int a3), (4, .int x4), (5, .int x5), (6, .int x6), (7, .int x7), (8, .int x8)] → W p l e (headSpec wsX7_whose { frames := 7, cells := 0, slots := 0, locals := 156 }).room s m (List.toArray [.ref (ad 0), .int a1, .int a2, .int a3]) below meth c H locs 0 0 (MQ below (va_Qi (fun r (_ : Unit) => r = r0) (fun _ t => zz_B D A (zg_W ML ad cA σf) (zg_T ML cA) t) A) (List.toArray [.ref (ad 0), .int a1, .int a2, .int a3]) s 0 0 A) (F0 m 84 ls []) := by
          intro k84_
          induction k84_ with
          | zero =>
              intro x4 x5 x6 x7 x8 σ hf84_ H84_ locs84_ ls84_ Z84_ hl84_
              exact zNone hf84_
          | succ k84_ ih84_ =>
              intro x4 x5 x6 x7 x8 σ hf84_ H84_ locs84_ ls84_ Z84_ hl84_
              replace hf84_ : B_X7_whose_84 a1 a2 a3 (L_X7_whose_58 a1 a2 a3 k58_) (L_X7_whose_84 a1 a2 a3 (L_X7_whose_58 a1 a2 a3 k58_) k84_) x4 x5 x6 x7 x8 σ = some (r0, σf) := hf84_
              unfold B_X7_whose_84 at hf84_
              have b182_ : ∀ (x4 : Int32) (x5 : Int32) (x6 : Int32) (σ : zg_S), B_X7_whose_182 a1 a2 a3 (L_X7_whose_58 a1 a2 a3 k58_) x4 x5 x6 σ = some (r0, σf) → ∀ (H : Heap) (locs : List Loc) (ls : Array Slot), zz_S D V A s (zg_W ML ad cA σ) (zg_T ML cA) H locs → lv_has ls 10 [(0, .ref (ad 0)), (1, .int a1), (2, .int a2), (3, .int a3), (4, .int x4), (5, .int x5), (6, .int x6)] → W p l e (headSpec wsX7_whose { frames := 7, cells := 0, slots := 0, locals := 156 }).room s m (List.toArray [.ref (ad 0), .int a1, .int a2, .int a3]) below meth c H locs 0 0 (MQ below (va_Qi (fun r (_ : Unit) => r = r0) (fun _ t => zz_B D A (zg_W ML ad cA σf) (zg_T ML cA) t) A) (List.toArray [.ref (ad 0), .int a1, .int a2, .int a3]) s 0 0 A) (F0 m 182 ls []) := by
                intro x4 x5 x6 σ hf182_ H182_ locs182_ ls182_ Z182_ hl182_
                unfold B_X7_whose_182 at hf182_
                refine lv_iinc (v := (x6 + 1)) (lv' := [(6, .int (x6 + 1)), (0, .ref (ad 0)), (1, .int a1), (2, .int a2), (3, .int a3), (4, .int x4), (5, .int x5)]) hx hb dX7_whose_182 hl182_ (k := 6) rfl rfl (by decide) rfl (fun ls2 hl1 => ?_)
                clear hl182_
                refine lv_goto (tgt := 58) hx hb dX7_whose_185 (by decide) ?_
                exact ih58_ x4 x5 (x6 + 1) σ hf182_ _ _ _ Z182_ (lv_sub hl1 [1, 2, 3, 4, 5, 6, 0] rfl)
              have b174_ : ∀ (x6 : Int32) (x7 : Int32) (σ : zg_S), B_X7_whose_174 a1 a2 a3 (L_X7_whose_58 a1 a2 a3 k58_) x6 x7 σ = some (r0, σf) → ∀ (H : Heap) (locs : List Loc) (ls : Array Slot), zz_S D V A s (zg_W ML ad cA σ) (zg_T ML cA) H locs → lv_has ls 10 [(0, .ref (ad 0)), (1, .int a1), (2, .int a2), (3, .int a3), (6, .int x6), (7, .int x7)] → W p l e (headSpec wsX7_whose { frames := 7, cells := 0, slots := 0, locals := 156 }).room s m (List.toArray [.ref (ad 0), .int a1, .int a2, .int a3]) below meth c H locs 0 0 (MQ below (va_Qi (fun r (_ : Unit) => r = r0) (fun _ t => zz_B D A (zg_W ML ad cA σf) (zg_T ML cA) t) A) (List.toArray [.ref (ad 0), .int a1, .int a2, .int a3]) s 0 0 A) (F0 m 174 ls []) := by
                intro x6 x7 σ hf174_ H174_ locs174_ ls174_ Z174_ hl174_
                unfold B_X7_whose_174 at hf174_
                refine lv_iload hx hb dX7_whose_174 (lv_at hl174_ 4 rfl) ?_
                refine lv_istore (lv' := [(4, .int x6), (0, .ref (ad 0)), (1, .int a1), (2, .int a2), (3, .int a3), (6, .int x6), (7, .int x7)]) hx hb dX7_whose_176 hl174_ (by decide) rfl (fun ls4 hl3 => ?_)
                clear hl174_
                refine lv_iload hx hb dX7_whose_178 (lv_at hl3 6 rfl) ?_
                refine lv_istore (lv' := [(5, .int x7), (4, .int x6), (0, .ref (ad 0)), (1, .int a1), (2, .int a2), (3, .int a3), (6, .int x6), (7, .int x7)]) hx hb dX7_whose_180 hl3 (by decide) rfl (fun ls6 hl5 => ?_)
                clear hl3
                exact b182_ x6 x7 x6 σ hf174_ _ _ _ Z174_ (lv_sub hl5 [2, 3, 4, 5, 1, 0, 6] rfl)
              have b149_ : ∀ (x4 : Int32) (x5 : Int32) (x6 : Int32) (x8 : Int32) (y0 : Int32) (y1 : Int32) (σ : zg_S), B_X7_whose_149 a1 a2 a3 (L_X7_whose_84 a1 a2 a3 (L_X7_whose_58 a1 a2 a3 k58_) k84_) x4 x5 x6 x8 y0 y1 σ = some (r0, σf) → ∀ (H : Heap) (locs : List Loc) (ls : Array Slot), zz_S D V A s (zg_W ML ad cA σ) (zg_T ML cA) H locs → lv_has ls 10 [(0, .ref (ad 0)), (1, .int a1), (2, .int a2), (3, .int a3), (4, .int x4), (5, .int x5), (6, .int x6), (8, .int x8)] → W p l e (headSpec wsX7_whose { frames := 7, cells := 0, slots := 0, locals := 156 }).room s m (List.toArray [.ref (ad 0), .int a1, .int a2, .int a3]) below meth c H locs 0 0 (MQ below (va_Qi (fun r (_ : Unit) => r = r0) (fun _ t => zz_B D A (zg_W ML ad cA σf) (zg_T ML cA) t) A) (List.toArray [.ref (ad 0), .int a1, .int a2, .int a3]) s 0 0 A) (F0 m 149 ls [.int y0, .int y1]) := by
                intro x4 x5 x6 x8 y0 y1 σ hf149_ H149_ locs149_ ls149_ Z149_ hl149_
                unfold B_X7_whose_149 at hf149_
                refine lv_iadd hx hb dX7_whose_149 ?_
                refine lv_istore (lv' := [(7, .int (y1 + y0)), (0, .ref (ad 0)), (1, .int a1), (2, .int a2), (3, .int a3), (4, .int x4), (5, .int x5), (6, .int x6), (8, .int x8)]) hx hb dX7_whose_150 hl149_ (by decide) rfl (fun ls8 hl7 => ?_)
                clear hl149_
                refine lv_iinc (v := (x8 + 1)) (lv' := [(8, .int (x8 + 1)), (7, .int (y1 + y0)), (0, .ref (ad 0)), (1, .int a1), (2, .int a2), (3, .int a3), (4, .int x4), (5, .int x5), (6, .int x6)]) hx hb dX7_whose_152 hl7 (k := 8) rfl rfl (by decide) rfl (fun ls10 hl9 => ?_)
                clear hl7
                refine lv_goto (tgt := 84) hx hb dX7_whose_155 (by decide) ?_
                exact ih84_ x4 x5 x6 (y1 + y0) (x8 + 1) σ hf149_ _ _ _ Z149_ (lv_sub hl9 [2, 3, 4, 5, 6, 7, 8, 1, 0] rfl)
              have b146_ : ∀ (x4 : Int32) (x5 : Int32) (x6 : Int32) (x8 : Int32) (y0 : Int32) (y1 : Int32) (y2 : Int32) (σ : zg_S), B_X7_whose_146 a1 a2 a3 (L_X7_whose_84 a1 a2 a3 (L_X7_whose_58 a1 a2 a3 k58_) k84_) x4 x5 x6 x8 y0 y1 y2 σ = some (r0, σf) → ∀ (H : Heap) (locs : List Loc) (ls : Array Slot), zz_S D V A s (zg_W ML ad cA σ) (zg_T ML cA) H locs → lv_has ls 10 [(0, .ref (ad 0)), (1, .int a1), (2, .int a2), (3, .int a3), (4, .int x4), (5, .int x5), (6, .int x6), (8, .int x8)] → W p l e (headSpec wsX7_whose { frames := 7, cells := 0, slots := 0, locals := 156 }).room s m (List.toArray [.ref (ad 0), .int a1, .int a2, .int a3]) below meth c H locs 0 0 (MQ below (va_Qi (fun r (_ : Unit) => r = r0) (fun _ t => zz_B D A (zg_W ML ad cA σf) (zg_T ML cA) t) A) (List.toArray [.ref (ad 0), .int a1, .int a2, .int a3]) s 0 0 A) (F0 m 146 ls [.int y0, .int y1, .int y2]) := by
                intro x4 x5 x6 x8 y0 y1 y2 σ hf146_ H146_ locs146_ ls146_ Z146_ hl146_
                unfold B_X7_whose_146 at hf146_
                obtain ⟨r11, σ12, hc13, hf14⟩ := zBd hf146_
                clear hf146_
                refine zy_ci (r0 := r11) (WS1 := zg_W ML ad cA σ12) (TYS1 := zg_T ML cA) Z146_ (va_runS (As := [.int y1, .int y0]) (rest := [.int y2]) X (c_X7_off l D V ad cA y1 y0 σ r11 σ12 hc13 H146_.size) (va_cwS 2 hts gX7_whose_X7_off rfl rfl rfl zh_X7_off ⟨Nat.le_of_ble_eq_true rfl, Nat.le_of_ble_eq_true rfl⟩) (zz_pS Z146_) rfl rfl hl146_.1 rfl (lv_room (Nat.le_of_ble_eq_true rfl)) dX7_whose_146 ⟨Nat.le_of_ble_eq_true rfl, Nat.le_of_ble_eq_true rfl⟩) (fun H15 lo16 Z17 => ?_)
                clear Z146_ hc13
                exact b149_ x4 x5 x6 x8 r11 y2 σ12 hf14 _ _ _ Z17 (lv_sub hl146_ [0, 1, 2, 3, 4, 5, 6, 7] rfl)
              refine lv_iload hx hb dX7_whose_84 (lv_at hl84_ 8 rfl) ?_
              refine lv_aload_n hx hb dX7_whose_86 rfl (lv_at hl84_ 0 rfl) ?_
              refine zy_get (v := .ref (ad 5)) X Z84_ mL_ok mk_0 rfl rfl (fun w h => List.mem_cons_of_mem _ (List.mem_append_right _ h)) 5 rfl (zz_m 6 rfl) rfl dX7_whose_87 ?_
              refine lv_iload_n hx hb dX7_whose_90 rfl (lv_at hl84_ 1 rfl) ?_
              obtain ⟨⟨i18, j19⟩, hf20⟩ := zG hf84_
              clear hf84_
              refine zy_ild X Z84_ mL_ok mk_5 ml_5 i18 dX7_whose_91 ?_
              refine lv_icmp_ge (tgt := 158) hx hb dX7_whose_92 (by decide) (fun b21 => ?_) (fun b21 => ?_)
              · have hf22 := zYes hf20 b21
                clear hf20
                refine lv_aload_n hx hb dX7_whose_158 rfl (lv_at hl84_ 0 rfl) ?_
                obtain ⟨r23, σ24, hc25, hf26⟩ := zBd hf22
                clear hf22
                refine zy_cv (WS1 := zg_W ML ad cA σ24) (TYS1 := zg_T ML cA) Z84_ (va_runV (As := []) (rest := []) X (c_X7_laysBack l D V ad cA  σ r23 σ24 hc25 H84_.size) (cwV 0 hts gX7_whose_X7_laysBack rfl rfl rfl ⟨rfl, zh_X7_laysBack⟩ ⟨Nat.le_of_ble_eq_true rfl, Nat.le_of_ble_eq_true rfl⟩) (zy_pV (ci := 7) Z84_ mL_ok mk_0 rfl rfl) rfl rfl hl84_.1 rfl (lv_room (Nat.le_of_ble_eq_true rfl)) dX7_whose_159 ⟨Nat.le_of_ble_eq_true rfl, Nat.le_of_ble_eq_true rfl⟩) (fun H27 lo28 Z29 => ?_)
                clear Z84_ hc25
                refine lv_iload hx hb dX7_whose_162 (lv_at hl84_ 4 rfl) ?_
                refine lv_if_lt (tgt := 174) hx hb dX7_whose_164 (by decide) (fun b30 => ?_) (fun b30 => ?_)
                · have hf31 := zYes hf26 b30
                  clear hf26
                  exact b174_ x6 x7 σ24 hf31 _ _ _ Z29 (lv_sub hl84_ [0, 1, 2, 3, 6, 7] rfl)
                · have hf32 := zNot hf26 b30
                  clear hf26
                  refine lv_iload hx hb dX7_whose_167 (lv_at hl84_ 7 rfl) ?_
                  refine lv_iload hx hb dX7_whose_169 (lv_at hl84_ 5 rfl) ?_
                  refine lv_icmp_ge (tgt := 182) hx hb dX7_whose_171 (by decide) (fun b33 => ?_) (fun b33 => ?_)
                  · have hf34 := zYes hf32 b33
                    clear hf32
                    exact b182_ x4 x5 x6 σ24 hf34 _ _ _ Z29 (lv_sub hl84_ [0, 1, 2, 3, 4, 5, 6] rfl)
                  · have hf35 := zNot hf32 b33
                    clear hf32
                    exact b174_ x6 x7 σ24 hf35 _ _ _ Z29 (lv_sub hl84_ [0, 1, 2, 3, 6, 7] rfl)
              · have hf36 := zNot hf20 b21
                clear hf20
                refine lv_aload_n hx hb dX7_whose_95 rfl (lv_at hl84_ 0 rfl) ?_
                refine zy_get (v := .ref (ad 6)) X Z84_ mL_ok mk_0 rfl rfl (fun w h => List.mem_cons_of_mem _ (List.mem_append_right _ h)) 6 rfl (zz_m 7 rfl) rfl dX7_whose_96 ?_
                refine lv_bipush (v := 24) hx hb dX7_whose_99 (by decide) ?_
                refine lv_iload_n hx hb dX7_whose_101 rfl (lv_at hl84_ 1 rfl) ?_
                refine lv_imul hx hb dX7_whose_102 ?_
                refine lv_iload hx hb dX7_whose_103 (lv_at hl84_ 8 rfl) ?_
                refine lv_iadd hx hb dX7_whose_105 ?_
                obtain ⟨⟨i37, j38⟩, hf39⟩ := zG hf36
                clear hf36
                refine zy_ild X Z84_ mL_ok mk_6 ml_6 i37 dX7_whose_106 ?_
                obtain ⟨y40, ey41, hf42⟩ := zLet hf39
                clear hf39
                refine zz_v (v := y40) ey41.symm ?_
                clear ey41
                refine lv_istore (lv' := [(9, .int y40), (0, .ref (ad 0)), (1, .int a1), (2, .int a2), (3, .int a3), (4, .int x4), (5, .int x5), (6, .int x6), (7, .int x7), (8, .int x8)]) hx hb dX7_whose_107 hl84_ (by decide) rfl (fun ls44 hl43 => ?_)
                clear hl84_
                refine lv_iload hx hb dX7_whose_109 (lv_at hl43 8 rfl) ?_
                refine lv_iload hx hb dX7_whose_111 (lv_at hl43 0 rfl) ?_
                refine lv_ldc (v := (-1000000005)) hx hb hown (hts _ (zz_m 8 rfl)) dX7_whose_113 ?_
                refine lv_icmp_ne (tgt := 122) hx hb dX7_whose_115 (by decide) (fun b45 => ?_) (fun b45 => ?_)
                · have hf46 := zNot hf42 b45
                  clear hf42
                  refine lv_iload hx hb dX7_whose_122 (lv_at hl43 0 rfl) ?_
                  refine lv_iload hx hb dX7_whose_124 (lv_at hl43 9 rfl) ?_
                  refine lv_aload_n hx hb dX7_whose_126 rfl (lv_at hl43 1 rfl) ?_
                  refine zy_get (v := .ref (ad 1)) X Z84_ mL_ok mk_0 rfl rfl (fun w h => List.mem_cons_of_mem _ (List.mem_append_right _ h)) 0 rfl (zz_m 5 rfl) rfl dX7_whose_127 ?_
                  refine lv_iconst (v := 0) hx hb dX7_whose_130 (by decide) ?_
                  refine zy_ild X Z84_ mL_ok mk_1 ml_1 (zz_in 0 3047 rfl) dX7_whose_131 ?_
                  refine zz_v (v := σ 1 0) rfl ?_
                  refine lv_icmp_ge (tgt := 145) hx hb dX7_whose_132 (by decide) (fun b47 => ?_) (fun b47 => ?_)
                  · have hf48 := zYes hf46 b47
                    clear hf46
                    refine lv_iconst (v := 0) hx hb dX7_whose_145 (by decide) ?_
                    exact b146_ x4 x5 x6 x8 0 y40 x7 σ hf48 _ _ _ Z84_ (lv_sub hl43 [1, 2, 3, 4, 5, 6, 7, 9] rfl)
                  · have hf49 := zNot hf46 b47
                    clear hf46
                    refine lv_aload_n hx hb dX7_whose_135 rfl (lv_at hl43 1 rfl) ?_
                    refine lv_iload hx hb dX7_whose_136 (lv_at hl43 9 rfl) ?_
                    refine lv_iconst (v := 2) hx hb dX7_whose_138 (by decide) ?_
                    obtain ⟨r50, σ51, hc52, hf53⟩ := zBd hf49
                    clear hf49
                    refine zy_ci (r0 := r50) (WS1 := zg_W ML ad cA σ51) (TYS1 := zg_T ML cA) Z84_ (va_runV (As := [.int x8, .int 2]) (rest := [.int y40, .int x7]) X (c_X7_of l D V ad cA x8 2 σ r50 σ51 hc52 H84_.size) (cwV 2 hts gX7_whose_X7_of rfl rfl rfl ⟨rfl, zh_X7_of⟩ ⟨Nat.le_of_ble_eq_true rfl, Nat.le_of_ble_eq_true rfl⟩) (zy_pV (ci := 7) Z84_ mL_ok mk_0 rfl rfl) rfl rfl hl43.1 rfl (lv_room (Nat.le_of_ble_eq_true rfl)) dX7_whose_139 ⟨Nat.le_of_ble_eq_true rfl, Nat.le_of_ble_eq_true rfl⟩) (fun H54 lo55 Z56 => ?_)
                    clear Z84_ hc52
                    refine lv_goto (tgt := 146) hx hb dX7_whose_142 (by decide) ?_
                    exact b146_ x4 x5 x6 x8 r50 y40 x7 σ51 hf53 _ _ _ Z56 (lv_sub hl43 [1, 2, 3, 4, 5, 6, 7, 9] rfl)
                · have hf57 := zYes hf42 b45
                  clear hf42
                  refine lv_iconst (v := 0) hx hb dX7_whose_118 (by decide) ?_
                  refine lv_goto (tgt := 149) hx hb dX7_whose_119 (by decide) ?_
                  exact b149_ x4 x5 x6 x8 0 x7 σ hf57 _ _ _ Z84_ (lv_sub hl43 [1, 2, 3, 4, 5, 6, 7, 9] rfl)
        refine lv_iload hx hb dX7_whose_58 (lv_at hl58_ 6 rfl) ?_
        refine lv_iconst (v := 3) hx hb dX7_whose_60 (by decide) ?_
        refine lv_icmp_ge (tgt := 188) hx hb dX7_whose_61 (by decide) (fun b58 => ?_) (fun b58 => ?_)
        · have hf59 := zYes hf58_ b58
          clear hf58_
          refine lv_iload_n hx hb dX7_whose_188 rfl (lv_at hl58_ 3 rfl) ?_
          refine lv_if_ne (tgt := 197) hx hb dX7_whose_189 (by decide) (fun b60 => ?_) (fun b60 => ?_)
          · have hf61 := zNot hf59 b60
            clear hf59
            refine lv_iload hx hb dX7_whose_197 (lv_at hl58_ 5 rfl) ?_
            exact zy_iret X hr hlk Z58_ (zEnd hf61) dX7_whose_199
          · have hf62 := zYes hf59 b60
            clear hf59
            refine lv_iload hx hb dX7_whose_192 (lv_at hl58_ 4 rfl) ?_
            refine lv_goto (tgt := 199) hx hb dX7_whose_194 (by decide) ?_
            exact zy_iret X hr hlk Z58_ (zEnd hf62) dX7_whose_199
        · have hf63 := zNot hf58_ b58
          clear hf58_
          refine lv_aload_n hx hb dX7_whose_64 rfl (lv_at hl58_ 0 rfl) ?_
          refine zy_get (v := .ref (ad 1)) X Z58_ mL_ok mk_0 rfl rfl (fun w h => List.mem_cons_of_mem _ (List.mem_append_right _ h)) 0 rfl (zz_m 5 rfl) rfl dX7_whose_65 ?_
          refine lv_bipush (v := 10) hx hb dX7_whose_68 (by decide) ?_
          refine lv_iload hx hb dX7_whose_70 (lv_at hl58_ 6 rfl) ?_
          obtain ⟨σ64, es65, hf66⟩ := zLet hf63
          clear hf63
          refine zy_ist (σ' := σ64) X Z58_ mL_ok mk_1 ml_1 (zz_in 10 3047 rfl) es65 dX7_whose_72 (fun H67 lo68 Z69 => ?_)
          clear Z58_ es65
          refine lv_aload_n hx hb dX7_whose_73 rfl (lv_at hl58_ 0 rfl) ?_
          refine lv_iload_n hx hb dX7_whose_74 rfl (lv_at hl58_ 2 rfl) ?_
          obtain ⟨r70, σ71, hc72, hf73⟩ := zBd hf66
          clear hf66
          refine zy_cv (WS1 := zg_W ML ad cA σ71) (TYS1 := zg_T ML cA) Z69 (va_runV (As := [.int a2]) (rest := []) X (c_X7_goesOnMany l D V ad cA a2 σ64 r70 σ71 hc72 H67.size) (cwV 1 hts gX7_whose_X7_goesOnMany rfl rfl rfl ⟨rfl, zh_X7_goesOnMany⟩ ⟨Nat.le_of_ble_eq_true rfl, Nat.le_of_ble_eq_true rfl⟩) (zy_pV (ci := 7) Z69 mL_ok mk_0 rfl rfl) rfl rfl hl58_.1 rfl (lv_room (Nat.le_of_ble_eq_true rfl)) dX7_whose_75 ⟨Nat.le_of_ble_eq_true rfl, Nat.le_of_ble_eq_true rfl⟩) (fun H74 lo75 Z76 => ?_)
          clear Z69 hc72
          refine lv_iconst (v := 0) hx hb dX7_whose_78 (by decide) ?_
          refine lv_istore (lv' := [(7, .int 0), (0, .ref (ad 0)), (1, .int a1), (2, .int a2), (3, .int a3), (4, .int x4), (5, .int x5), (6, .int x6)]) hx hb dX7_whose_79 hl58_ (by decide) rfl (fun ls78 hl77 => ?_)
          clear hl58_
          refine lv_iconst (v := 0) hx hb dX7_whose_81 (by decide) ?_
          refine lv_istore (lv' := [(8, .int 0), (7, .int 0), (0, .ref (ad 0)), (1, .int a1), (2, .int a2), (3, .int a3), (4, .int x4), (5, .int x5), (6, .int x6)]) hx hb dX7_whose_82 hl77 (by decide) rfl (fun ls80 hl79 => ?_)
          clear hl77
          exact b84_ zfu x4 x5 x6 0 0 σ71 hf73 _ _ _ Z76 (lv_sub hl79 [2, 3, 4, 5, 6, 7, 8, 1, 0] rfl)
  refine lv_iload_n hx hb dX7_whose_0 rfl (lv_at hl 1 rfl) ?_
  obtain ⟨r81, σ82, hc83, hf84⟩ := zBd hf
  clear hf
  refine zy_ci (r0 := r81) (WS1 := zg_W ML ad cA σ82) (TYS1 := zg_T ML cA) Z (va_runS (As := [.int a1]) (rest := []) X (c_X7_isSheet l D V ad cA a1 σ r81 σ82 hc83 s.heap.size) (va_cwS 1 hts gX7_whose_X7_isSheet rfl rfl rfl zh_X7_isSheet ⟨Nat.le_of_ble_eq_true rfl, Nat.le_of_ble_eq_true rfl⟩) (zz_pS Z) rfl rfl hl.1 rfl (lv_room (Nat.le_of_ble_eq_true rfl)) dX7_whose_1 ⟨Nat.le_of_ble_eq_true rfl, Nat.le_of_ble_eq_true rfl⟩) (fun H85 lo86 Z87 => ?_)
  clear Z hc83
  refine lv_if_eq (tgt := 29) hx hb dX7_whose_4 (by decide) (fun b88 => ?_) (fun b88 => ?_)
  · have hf89 := zYes hf84 b88
    clear hf84
    refine lv_ldc (v := (-1000000001)) hx hb hown (hts _ (zz_m 2 rfl)) dX7_whose_29 ?_
    exact zy_iret X hr hlk Z87 (zEnd hf89) dX7_whose_31
  · have hf90 := zNot hf84 b88
    clear hf84
    refine lv_iload_n hx hb dX7_whose_7 rfl (lv_at hl 2 rfl) ?_
    refine lv_i2l (v := Int32.toInt64 a2) hx hb dX7_whose_8 rfl ?_
    refine lv_lconst (v := 0) hx hb dX7_whose_9 (by decide) ?_
    refine zz_vl (v := Int32.toInt64 0) (by decide) ?_
    refine lv_ldc2 (v := 60) hx hb hown (hts _ (zz_m 1 rfl)) dX7_whose_10 ?_
    refine zz_vl (v := Int32.toInt64 60) (by decide) ?_
    obtain ⟨r91, σ92, hc93, hf94⟩ := zBd hf90
    clear hf90
    refine zy_ci (r0 := r91) (WS1 := zg_W ML ad cA σ92) (TYS1 := zg_T ML cA) Z87 (va_runS (As := [.long (Int32.toInt64 a2), .long (Int32.toInt64 0), .long (Int32.toInt64 60)]) (rest := []) X (c_X7_isIn l D V ad cA (Int32.toInt64 a2) (Int32.toInt64 0) (Int32.toInt64 60) σ82 r91 σ92 hc93 H85.size) (va_cwS 3 hts gX7_whose_X7_isIn rfl rfl rfl zh_X7_isIn ⟨Nat.le_of_ble_eq_true rfl, Nat.le_of_ble_eq_true rfl⟩) (zz_pS Z87) rfl rfl hl.1 rfl (lv_room (Nat.le_of_ble_eq_true rfl)) dX7_whose_13 ⟨Nat.le_of_ble_eq_true rfl, Nat.le_of_ble_eq_true rfl⟩) (fun H95 lo96 Z97 => ?_)
    clear Z87 hc93
    refine lv_if_eq (tgt := 29) hx hb dX7_whose_16 (by decide) (fun b98 => ?_) (fun b98 => ?_)
    · have hf99 := zYes hf94 b98
      clear hf94
      refine lv_ldc (v := (-1000000001)) hx hb hown (hts _ (zz_m 2 rfl)) dX7_whose_29 ?_
      exact zy_iret X hr hlk Z97 (zEnd hf99) dX7_whose_31
    · have hf100 := zNot hf94 b98
      clear hf94
      refine lv_iload_n hx hb dX7_whose_19 rfl (lv_at hl 3 rfl) ?_
      refine lv_i2l (v := Int32.toInt64 a3) hx hb dX7_whose_20 rfl ?_
      refine lv_lconst (v := 0) hx hb dX7_whose_21 (by decide) ?_
      refine zz_vl (v := Int32.toInt64 0) (by decide) ?_
      refine lv_lconst (v := 1) hx hb dX7_whose_22 (by decide) ?_
      refine zz_vl (v := Int32.toInt64 1) (by decide) ?_
      obtain ⟨r101, σ102, hc103, hf104⟩ := zBd hf100
      clear hf100
      refine zy_ci (r0 := r101) (WS1 := zg_W ML ad cA σ102) (TYS1 := zg_T ML cA) Z97 (va_runS (As := [.long (Int32.toInt64 a3), .long (Int32.toInt64 0), .long (Int32.toInt64 1)]) (rest := []) X (c_X7_isIn l D V ad cA (Int32.toInt64 a3) (Int32.toInt64 0) (Int32.toInt64 1) σ92 r101 σ102 hc103 H95.size) (va_cwS 3 hts gX7_whose_X7_isIn rfl rfl rfl zh_X7_isIn ⟨Nat.le_of_ble_eq_true rfl, Nat.le_of_ble_eq_true rfl⟩) (zz_pS Z97) rfl rfl hl.1 rfl (lv_room (Nat.le_of_ble_eq_true rfl)) dX7_whose_23 ⟨Nat.le_of_ble_eq_true rfl, Nat.le_of_ble_eq_true rfl⟩) (fun H105 lo106 Z107 => ?_)
      clear Z97 hc103
      refine lv_if_ne (tgt := 32) hx hb dX7_whose_26 (by decide) (fun b108 => ?_) (fun b108 => ?_)
      · have hf109 := zNot hf104 b108
        clear hf104
        refine lv_aload_n hx hb dX7_whose_32 rfl (lv_at hl 0 rfl) ?_
        refine zy_get (v := .ref (ad 4)) X Z107 mL_ok mk_0 rfl rfl (fun w h => List.mem_cons_of_mem _ (List.mem_append_right _ h)) 4 rfl (zz_m 3 rfl) rfl dX7_whose_33 ?_
        refine lv_iload_n hx hb dX7_whose_36 rfl (lv_at hl 1 rfl) ?_
        obtain ⟨⟨i110, j111⟩, hf112⟩ := zG hf109
        clear hf109
        refine zy_ild X Z107 mL_ok mk_4 ml_4 i110 dX7_whose_37 ?_
        refine lv_if_ge (tgt := 45) hx hb dX7_whose_38 (by decide) (fun b113 => ?_) (fun b113 => ?_)
        · have hf114 := zYes hf112 b113
          clear hf112
          refine lv_aload_n hx hb dX7_whose_45 rfl (lv_at hl 0 rfl) ?_
          obtain ⟨r115, σ116, hc117, hf118⟩ := zBd hf114
          clear hf114
          refine zy_cv (WS1 := zg_W ML ad cA σ116) (TYS1 := zg_T ML cA) Z107 (va_runV (As := []) (rest := []) X (c_X7_laysBy l D V ad cA  σ102 r115 σ116 hc117 H105.size) (cwV 0 hts gX7_whose_X7_laysBy rfl rfl rfl ⟨rfl, zh_X7_laysBy⟩ ⟨Nat.le_of_ble_eq_true rfl, Nat.le_of_ble_eq_true rfl⟩) (zy_pV (ci := 7) Z107 mL_ok mk_0 rfl rfl) rfl rfl hl.1 rfl (lv_room (Nat.le_of_ble_eq_true rfl)) dX7_whose_46 ⟨Nat.le_of_ble_eq_true rfl, Nat.le_of_ble_eq_true rfl⟩) (fun H119 lo120 Z121 => ?_)
          clear Z107 hc117
          refine lv_iconst (v := (-1)) hx hb dX7_whose_49 (by decide) ?_
          refine lv_istore (lv' := [(4, .int (-1)), (0, .ref (ad 0)), (1, .int a1), (2, .int a2), (3, .int a3)]) hx hb dX7_whose_50 hl (by decide) rfl (fun ls123 hl122 => ?_)
          clear hl
          refine lv_iconst (v := 0) hx hb dX7_whose_52 (by decide) ?_
          refine lv_istore (lv' := [(5, .int 0), (4, .int (-1)), (0, .ref (ad 0)), (1, .int a1), (2, .int a2), (3, .int a3)]) hx hb dX7_whose_53 hl122 (by decide) rfl (fun ls125 hl124 => ?_)
          clear hl122
          refine lv_iconst (v := 0) hx hb dX7_whose_55 (by decide) ?_
          refine lv_istore (lv' := [(6, .int 0), (5, .int 0), (4, .int (-1)), (0, .ref (ad 0)), (1, .int a1), (2, .int a2), (3, .int a3)]) hx hb dX7_whose_56 hl124 (by decide) rfl (fun ls127 hl126 => ?_)
          clear hl124
          exact b58_ zfu (-1) 0 0 σ116 hf118 _ _ _ Z121 (lv_sub hl126 [3, 4, 5, 6, 2, 1, 0] rfl)
        · have hf128 := zNot hf112 b113
          clear hf112
          refine lv_ldcw (v := (-1000000011)) hx hb hown (hts _ (zz_m 4 rfl)) dX7_whose_41 ?_
          exact zy_iret X hr hlk Z107 (zEnd hf128) dX7_whose_44
      · have hf129 := zYes hf104 b108
        clear hf104
        refine lv_ldc (v := (-1000000001)) hx hb hown (hts _ (zz_m 2 rfl)) dX7_whose_29 ?_
        exact zy_iret X hr hlk Z107 (zEnd hf129) dX7_whose_31
def f_X7_why (a1 : Int32) (σ : zg_S) : Option (Int32 × zg_S) := zbd (f_X7_isIn (Int32.toInt64 a1) (Int32.toInt64 0) (Int32.toInt64 2) σ) (fun (r1 : Int32) (σ2 : zg_S) => (if r1 = 0 then some ((-1000000001), σ2) else zbd (f_X7_counts a1 σ2) (fun (r11 : Int32) (σ12 : zg_S) => zbd (f_X7_orNone r11 σ12) (fun (r18 : Int32) (σ19 : zg_S) => some (r18, σ19)))))
set_option maxHeartbeats 4000000 in
set_option maxRecDepth 100000 in
theorem c_X7_why (l : Launch) (D : va_G) (V : zz_V) (ad : Nat → Nat) (cA : Nat → ClassId) (a1 : Int32)  (σ : zg_S) (r0 : Int32) (σf : zg_S) (hf : f_X7_why a1 σ = some (r0, σf)) : zM_I l yX7_why wsX7_why 2 44 D V ML ad cA [.ref (ad 0), .int a1] σ r0 σf := by
  intro sz
  refine Met.ofW (cc := cX7_why) (maxL := 2) (ret := (some .int)) (by decide) rfl ?_
  intro p e s m args below meth c s₁ B hml hv
  obtain ⟨rfl, hC⟩ := hv
  have hx := B.exec
  have hb := B.bytes
  have hr := B.returns
  have hts := atoms_spec (ws := wsX7_why) B.pre
  have hown : s.vm.findClass RX7 = some m.cls := findClass_of_methodNamed B.named
  have hlk := B.notSynchronized
  have X : CallFix p m c cX7_why 2 s _ wsX7_why RX7 := ⟨hx, hb, hml, hown, hts⟩
  have Z := zz_enter hC
  generalize va_A (zg_W ML ad cA σ) sz = A at Z ⊢
  have hl := lv_entry ([.ref (ad 0), .int a1]) (n := 2) (Nat.le_of_ble_eq_true rfl)
  rw [lg_entry_eq]
  generalize (lg_sl ([.ref (ad 0), .int a1]) ++ List.replicate (2 - (lg_sl ([.ref (ad 0), .int a1])).length) Slot.unset).toArray = ls at hl ⊢
  have hl : lv_has ls 2 [(0, .ref (ad 0)), (1, .int a1)] := hl
  unfold f_X7_why at hf
  refine lv_iload_n hx hb dX7_why_0 rfl (lv_at hl 1 rfl) ?_
  refine lv_i2l (v := Int32.toInt64 a1) hx hb dX7_why_1 rfl ?_
  refine lv_lconst (v := 0) hx hb dX7_why_2 (by decide) ?_
  refine zz_vl (v := Int32.toInt64 0) (by decide) ?_
  refine lv_ldc2 (v := 2) hx hb hown (hts _ (zz_m 1 rfl)) dX7_why_3 ?_
  refine zz_vl (v := Int32.toInt64 2) (by decide) ?_
  obtain ⟨r1, σ2, hc3, hf4⟩ := zBd hf
  clear hf
  refine zy_ci (r0 := r1) (WS1 := zg_W ML ad cA σ2) (TYS1 := zg_T ML cA) Z (va_runS (As := [.long (Int32.toInt64 a1), .long (Int32.toInt64 0), .long (Int32.toInt64 2)]) (rest := []) X (c_X7_isIn l D V ad cA (Int32.toInt64 a1) (Int32.toInt64 0) (Int32.toInt64 2) σ r1 σ2 hc3 s.heap.size) (va_cwS 3 hts gX7_why_X7_isIn rfl rfl rfl zh_X7_isIn ⟨Nat.le_of_ble_eq_true rfl, Nat.le_of_ble_eq_true rfl⟩) (zz_pS Z) rfl rfl hl.1 rfl (lv_room (Nat.le_of_ble_eq_true rfl)) dX7_why_6 ⟨Nat.le_of_ble_eq_true rfl, Nat.le_of_ble_eq_true rfl⟩) (fun H5 lo6 Z7 => ?_)
  clear Z hc3
  refine lv_if_eq (tgt := 23) hx hb dX7_why_9 (by decide) (fun b8 => ?_) (fun b8 => ?_)
  · have hf9 := zYes hf4 b8
    clear hf4
    refine lv_ldc (v := (-1000000001)) hx hb hown (hts _ (zz_m 2 rfl)) dX7_why_23 ?_
    exact zy_iret X hr hlk Z7 (zEnd hf9) dX7_why_25
  · have hf10 := zNot hf4 b8
    clear hf4
    refine lv_aload_n hx hb dX7_why_12 rfl (lv_at hl 0 rfl) ?_
    refine lv_iload_n hx hb dX7_why_13 rfl (lv_at hl 1 rfl) ?_
    obtain ⟨r11, σ12, hc13, hf14⟩ := zBd hf10
    clear hf10
    refine zy_ci (r0 := r11) (WS1 := zg_W ML ad cA σ12) (TYS1 := zg_T ML cA) Z7 (va_runV (As := [.int a1]) (rest := []) X (c_X7_counts l D V ad cA a1 σ2 r11 σ12 hc13 H5.size) (cwV 1 hts gX7_why_X7_counts rfl rfl rfl ⟨rfl, zh_X7_counts⟩ ⟨Nat.le_of_ble_eq_true rfl, Nat.le_of_ble_eq_true rfl⟩) (zy_pV (ci := 7) Z7 mL_ok mk_0 rfl rfl) rfl rfl hl.1 rfl (lv_room (Nat.le_of_ble_eq_true rfl)) dX7_why_14 ⟨Nat.le_of_ble_eq_true rfl, Nat.le_of_ble_eq_true rfl⟩) (fun H15 lo16 Z17 => ?_)
    clear Z7 hc13
    obtain ⟨r18, σ19, hc20, hf21⟩ := zBd hf14
    clear hf14
    refine zy_ci (r0 := r18) (WS1 := zg_W ML ad cA σ19) (TYS1 := zg_T ML cA) Z17 (va_runS (As := [.int r11]) (rest := []) X (c_X7_orNone l D V ad cA r11 σ12 r18 σ19 hc20 H15.size) (va_cwS 1 hts gX7_why_X7_orNone rfl rfl rfl zh_X7_orNone ⟨Nat.le_of_ble_eq_true rfl, Nat.le_of_ble_eq_true rfl⟩) (zz_pS Z17) rfl rfl hl.1 rfl (lv_room (Nat.le_of_ble_eq_true rfl)) dX7_why_17 ⟨Nat.le_of_ble_eq_true rfl, Nat.le_of_ble_eq_true rfl⟩) (fun H22 lo23 Z24 => ?_)
    clear Z17 hc20
    refine lv_goto (tgt := 25) hx hb dX7_why_20 (by decide) ?_
    exact zy_iret X hr hlk Z24 (zEnd hf21) dX7_why_25
def B_X7_wider_77 (a1 : Int32) (a2 : Int32) (rec37_ : Int32 → Int32 → zg_S → Option (Int32 × zg_S)) (x4 : Int32) (y0 : Int32) (σ : zg_S) : Option (Int32 × zg_S) := zbd (f_X7_laysBack σ) (fun (r3 : Int32) (σ4 : zg_S) => rec37_ y0 (x4 + (-1)) σ4)
def B_X7_wider_37 (a1 : Int32) (a2 : Int32) (rec37_ : Int32 → Int32 → zg_S → Option (Int32 × zg_S)) (x3 : Int32) (x4 : Int32) (σ : zg_S) : Option (Int32 × zg_S) := (if x4 < 1 then zbd (f_X7_orNone x3 σ) (fun (r14 : Int32) (σ15 : zg_S) => some (r14, σ15)) else zlet (zg_up σ 1 8 x4) (fun (σ22 : zg_S) => zbd (f_X7_holds σ22) (fun (r28 : Int32) (σ29 : zg_S) => zbd (f_X7_goesOnMany a2 σ29) (fun (r35 : Int32) (σ36 : zg_S) => (if a1 < (σ36 1 4) then B_X7_wider_77 a1 a2 rec37_ x4 x3 σ36 else B_X7_wider_77 a1 a2 rec37_ x4 x4 σ36)))))
def L_X7_wider_37 (a1 : Int32) (a2 : Int32) : Nat → Int32 → Int32 → zg_S → Option (Int32 × zg_S) := zfix (fun _ _ _ => none) (B_X7_wider_37 a1 a2)
def f_X7_wider (a1 : Int32) (a2 : Int32) (σ : zg_S) : Option (Int32 × zg_S) := zbd (f_X7_isIn (Int32.toInt64 a1) (Int32.toInt64 0) (Int32.toInt64 9999) σ) (fun (r45 : Int32) (σ46 : zg_S) => (if r45 = 0 then some ((-1000000001), σ46) else zbd (f_X7_isIn (Int32.toInt64 a2) (Int32.toInt64 1) (Int32.toInt64 60) σ46) (fun (r55 : Int32) (σ56 : zg_S) => (if r55 = 0 then some ((-1000000001), σ56) else zbd (f_X7_laysBy σ56) (fun (r64 : Int32) (σ65 : zg_S) => L_X7_wider_37 a1 a2 zfu (-1) 6 σ65)))))
set_option maxHeartbeats 4000000 in
set_option maxRecDepth 100000 in
theorem c_X7_wider (l : Launch) (D : va_G) (V : zz_V) (ad : Nat → Nat) (cA : Nat → ClassId) (a1 : Int32) (a2 : Int32)  (σ : zg_S) (r0 : Int32) (σf : zg_S) (hf : f_X7_wider a1 a2 σ = some (r0, σf)) : zM_I l yX7_wider wsX7_wider 7 156 D V ML ad cA [.ref (ad 0), .int a1, .int a2] σ r0 σf := by
  intro sz
  refine Met.ofW (cc := cX7_wider) (maxL := 5) (ret := (some .int)) (by decide) rfl ?_
  intro p e s m args below meth c s₁ B hml hv
  obtain ⟨rfl, hC⟩ := hv
  have hx := B.exec
  have hb := B.bytes
  have hr := B.returns
  have hts := atoms_spec (ws := wsX7_wider) B.pre
  have hown : s.vm.findClass RX7 = some m.cls := findClass_of_methodNamed B.named
  have hlk := B.notSynchronized
  have X : CallFix p m c cX7_wider 5 s _ wsX7_wider RX7 := ⟨hx, hb, hml, hown, hts⟩
  have Z := zz_enter hC
  generalize va_A (zg_W ML ad cA σ) sz = A at Z ⊢
  have hl := lv_entry ([.ref (ad 0), .int a1, .int a2]) (n := 5) (Nat.le_of_ble_eq_true rfl)
  rw [lg_entry_eq]
  generalize (lg_sl ([.ref (ad 0), .int a1, .int a2]) ++ List.replicate (5 - (lg_sl ([.ref (ad 0), .int a1, .int a2])).length) Slot.unset).toArray = ls at hl ⊢
  have hl : lv_has ls 5 [(0, .ref (ad 0)), (1, .int a1), (2, .int a2)] := hl
  unfold f_X7_wider at hf
  have b37_ : ∀ (k37_ : Nat) (x3 : Int32) (x4 : Int32) (σ : zg_S), L_X7_wider_37 a1 a2 k37_ x3 x4 σ = some (r0, σf) → ∀ (H : Heap) (locs : List Loc) (ls : Array Slot), zz_S D V A s (zg_W ML ad cA σ) (zg_T ML cA) H locs → lv_has ls 5 [(0, .ref (ad 0)), (1, .int a1), (2, .int a2), (3, .int x3), (4, .int x4)] → W p l e (headSpec wsX7_wider { frames := 7, cells := 0, slots := 0, locals := 156 }).room s m (List.toArray [.ref (ad 0), .int a1, .int a2]) below meth c H locs 0 0 (MQ below (va_Qi (fun r (_ : Unit) => r = r0) (fun _ t => zz_B D A (zg_W ML ad cA σf) (zg_T ML cA) t) A) (List.toArray [.ref (ad 0), .int a1, .int a2]) s 0 0 A) (F0 m 37 ls []) := by
    intro k37_
    induction k37_ with
    | zero =>
        intro x3 x4 σ hf37_ H37_ locs37_ ls37_ Z37_ hl37_
        exact zNone hf37_
    | succ k37_ ih37_ =>
        intro x3 x4 σ hf37_ H37_ locs37_ ls37_ Z37_ hl37_
        replace hf37_ : B_X7_wider_37 a1 a2 (L_X7_wider_37 a1 a2 k37_) x3 x4 σ = some (r0, σf) := hf37_
        unfold B_X7_wider_37 at hf37_
        have b77_ : ∀ (x4 : Int32) (y0 : Int32) (σ : zg_S), B_X7_wider_77 a1 a2 (L_X7_wider_37 a1 a2 k37_) x4 y0 σ = some (r0, σf) → ∀ (H : Heap) (locs : List Loc) (ls : Array Slot), zz_S D V A s (zg_W ML ad cA σ) (zg_T ML cA) H locs → lv_has ls 5 [(0, .ref (ad 0)), (1, .int a1), (2, .int a2), (4, .int x4)] → W p l e (headSpec wsX7_wider { frames := 7, cells := 0, slots := 0, locals := 156 }).room s m (List.toArray [.ref (ad 0), .int a1, .int a2]) below meth c H locs 0 0 (MQ below (va_Qi (fun r (_ : Unit) => r = r0) (fun _ t => zz_B D A (zg_W ML ad cA σf) (zg_T ML cA) t) A) (List.toArray [.ref (ad 0), .int a1, .int a2]) s 0 0 A) (F0 m 77 ls [.int y0]) := by
          intro x4 y0 σ hf77_ H77_ locs77_ ls77_ Z77_ hl77_
          unfold B_X7_wider_77 at hf77_
          refine lv_istore_n (lv' := [(3, .int y0), (0, .ref (ad 0)), (1, .int a1), (2, .int a2), (4, .int x4)]) hx hb dX7_wider_77 rfl hl77_ (by decide) rfl (fun ls2 hl1 => ?_)
          clear hl77_
          refine lv_aload_n hx hb dX7_wider_78 rfl (lv_at hl1 1 rfl) ?_
          obtain ⟨r3, σ4, hc5, hf6⟩ := zBd hf77_
          clear hf77_
          refine zy_cv (WS1 := zg_W ML ad cA σ4) (TYS1 := zg_T ML cA) Z77_ (va_runV (As := []) (rest := []) X (c_X7_laysBack l D V ad cA  σ r3 σ4 hc5 H77_.size) (cwV 0 hts gX7_wider_X7_laysBack rfl rfl rfl ⟨rfl, zh_X7_laysBack⟩ ⟨Nat.le_of_ble_eq_true rfl, Nat.le_of_ble_eq_true rfl⟩) (zy_pV (ci := 7) Z77_ mL_ok mk_0 rfl rfl) rfl rfl hl1.1 rfl (lv_room (Nat.le_of_ble_eq_true rfl)) dX7_wider_79 ⟨Nat.le_of_ble_eq_true rfl, Nat.le_of_ble_eq_true rfl⟩) (fun H7 lo8 Z9 => ?_)
          clear Z77_ hc5
          refine lv_iinc (v := (x4 + (-1))) (lv' := [(4, .int (x4 + (-1))), (3, .int y0), (0, .ref (ad 0)), (1, .int a1), (2, .int a2)]) hx hb dX7_wider_82 hl1 (k := 4) rfl rfl (by decide) rfl (fun ls11 hl10 => ?_)
          clear hl1
          refine lv_goto (tgt := 37) hx hb dX7_wider_85 (by decide) ?_
          exact ih37_ y0 (x4 + (-1)) σ4 hf6 _ _ _ Z9 (lv_sub hl10 [2, 3, 4, 1, 0] rfl)
        refine lv_iload hx hb dX7_wider_37 (lv_at hl37_ 4 rfl) ?_
        refine lv_iconst (v := 1) hx hb dX7_wider_39 (by decide) ?_
        refine lv_icmp_lt (tgt := 88) hx hb dX7_wider_40 (by decide) (fun b12 => ?_) (fun b12 => ?_)
        · have hf13 := zYes hf37_ b12
          clear hf37_
          refine lv_iload_n hx hb dX7_wider_88 rfl (lv_at hl37_ 3 rfl) ?_
          obtain ⟨r14, σ15, hc16, hf17⟩ := zBd hf13
          clear hf13
          refine zy_ci (r0 := r14) (WS1 := zg_W ML ad cA σ15) (TYS1 := zg_T ML cA) Z37_ (va_runS (As := [.int x3]) (rest := []) X (c_X7_orNone l D V ad cA x3 σ r14 σ15 hc16 H37_.size) (va_cwS 1 hts gX7_wider_X7_orNone rfl rfl rfl zh_X7_orNone ⟨Nat.le_of_ble_eq_true rfl, Nat.le_of_ble_eq_true rfl⟩) (zz_pS Z37_) rfl rfl hl37_.1 rfl (lv_room (Nat.le_of_ble_eq_true rfl)) dX7_wider_89 ⟨Nat.le_of_ble_eq_true rfl, Nat.le_of_ble_eq_true rfl⟩) (fun H18 lo19 Z20 => ?_)
          clear Z37_ hc16
          exact zy_iret X hr hlk Z20 (zEnd hf17) dX7_wider_92
        · have hf21 := zNot hf37_ b12
          clear hf37_
          refine lv_aload_n hx hb dX7_wider_43 rfl (lv_at hl37_ 0 rfl) ?_
          refine zy_get (v := .ref (ad 1)) X Z37_ mL_ok mk_0 rfl rfl (fun w h => List.mem_cons_of_mem _ (List.mem_append_right _ h)) 0 rfl (zz_m 4 rfl) rfl dX7_wider_44 ?_
          refine lv_bipush (v := 8) hx hb dX7_wider_47 (by decide) ?_
          refine lv_iload hx hb dX7_wider_49 (lv_at hl37_ 4 rfl) ?_
          obtain ⟨σ22, es23, hf24⟩ := zLet hf21
          clear hf21
          refine zy_ist (σ' := σ22) X Z37_ mL_ok mk_1 ml_1 (zz_in 8 3047 rfl) es23 dX7_wider_51 (fun H25 lo26 Z27 => ?_)
          clear Z37_ es23
          refine lv_aload_n hx hb dX7_wider_52 rfl (lv_at hl37_ 0 rfl) ?_
          obtain ⟨r28, σ29, hc30, hf31⟩ := zBd hf24
          clear hf24
          refine zy_cv (WS1 := zg_W ML ad cA σ29) (TYS1 := zg_T ML cA) Z27 (va_runV (As := []) (rest := []) X (c_X7_holds l D V ad cA  σ22 r28 σ29 hc30 H25.size) (cwV 0 hts gX7_wider_X7_holds rfl rfl rfl ⟨rfl, zh_X7_holds⟩ ⟨Nat.le_of_ble_eq_true rfl, Nat.le_of_ble_eq_true rfl⟩) (zy_pV (ci := 7) Z27 mL_ok mk_0 rfl rfl) rfl rfl hl37_.1 rfl (lv_room (Nat.le_of_ble_eq_true rfl)) dX7_wider_53 ⟨Nat.le_of_ble_eq_true rfl, Nat.le_of_ble_eq_true rfl⟩) (fun H32 lo33 Z34 => ?_)
          clear Z27 hc30
          refine lv_aload_n hx hb dX7_wider_56 rfl (lv_at hl37_ 0 rfl) ?_
          refine lv_iload_n hx hb dX7_wider_57 rfl (lv_at hl37_ 2 rfl) ?_
          obtain ⟨r35, σ36, hc37, hf38⟩ := zBd hf31
          clear hf31
          refine zy_cv (WS1 := zg_W ML ad cA σ36) (TYS1 := zg_T ML cA) Z34 (va_runV (As := [.int a2]) (rest := []) X (c_X7_goesOnMany l D V ad cA a2 σ29 r35 σ36 hc37 H32.size) (cwV 1 hts gX7_wider_X7_goesOnMany rfl rfl rfl ⟨rfl, zh_X7_goesOnMany⟩ ⟨Nat.le_of_ble_eq_true rfl, Nat.le_of_ble_eq_true rfl⟩) (zy_pV (ci := 7) Z34 mL_ok mk_0 rfl rfl) rfl rfl hl37_.1 rfl (lv_room (Nat.le_of_ble_eq_true rfl)) dX7_wider_58 ⟨Nat.le_of_ble_eq_true rfl, Nat.le_of_ble_eq_true rfl⟩) (fun H39 lo40 Z41 => ?_)
          clear Z34 hc37
          refine lv_aload_n hx hb dX7_wider_61 rfl (lv_at hl37_ 0 rfl) ?_
          refine zy_get (v := .ref (ad 1)) X Z41 mL_ok mk_0 rfl rfl (fun w h => List.mem_cons_of_mem _ (List.mem_append_right _ h)) 0 rfl (zz_m 4 rfl) rfl dX7_wider_62 ?_
          refine lv_iconst (v := 4) hx hb dX7_wider_65 (by decide) ?_
          refine zy_ild X Z41 mL_ok mk_1 ml_1 (zz_in 4 3047 rfl) dX7_wider_66 ?_
          refine zz_v (v := σ36 1 4) rfl ?_
          refine lv_iload_n hx hb dX7_wider_67 rfl (lv_at hl37_ 1 rfl) ?_
          refine lv_icmp_gt (tgt := 76) hx hb dX7_wider_68 (by decide) (fun b42 => ?_) (fun b42 => ?_)
          · have hf43 := zYes hf38 b42
            clear hf38
            refine lv_iload_n hx hb dX7_wider_76 rfl (lv_at hl37_ 3 rfl) ?_
            exact b77_ x4 x3 σ36 hf43 _ _ _ Z41 (lv_sub hl37_ [0, 1, 2, 4] rfl)
          · have hf44 := zNot hf38 b42
            clear hf38
            refine lv_iload hx hb dX7_wider_71 (lv_at hl37_ 4 rfl) ?_
            refine lv_goto (tgt := 77) hx hb dX7_wider_73 (by decide) ?_
            exact b77_ x4 x4 σ36 hf44 _ _ _ Z41 (lv_sub hl37_ [0, 1, 2, 4] rfl)
  refine lv_iload_n hx hb dX7_wider_0 rfl (lv_at hl 1 rfl) ?_
  refine lv_i2l (v := Int32.toInt64 a1) hx hb dX7_wider_1 rfl ?_
  refine lv_lconst (v := 0) hx hb dX7_wider_2 (by decide) ?_
  refine zz_vl (v := Int32.toInt64 0) (by decide) ?_
  refine lv_ldc2 (v := 9999) hx hb hown (hts _ (zz_m 1 rfl)) dX7_wider_3 ?_
  refine zz_vl (v := Int32.toInt64 9999) (by decide) ?_
  obtain ⟨r45, σ46, hc47, hf48⟩ := zBd hf
  clear hf
  refine zy_ci (r0 := r45) (WS1 := zg_W ML ad cA σ46) (TYS1 := zg_T ML cA) Z (va_runS (As := [.long (Int32.toInt64 a1), .long (Int32.toInt64 0), .long (Int32.toInt64 9999)]) (rest := []) X (c_X7_isIn l D V ad cA (Int32.toInt64 a1) (Int32.toInt64 0) (Int32.toInt64 9999) σ r45 σ46 hc47 s.heap.size) (va_cwS 3 hts gX7_wider_X7_isIn rfl rfl rfl zh_X7_isIn ⟨Nat.le_of_ble_eq_true rfl, Nat.le_of_ble_eq_true rfl⟩) (zz_pS Z) rfl rfl hl.1 rfl (lv_room (Nat.le_of_ble_eq_true rfl)) dX7_wider_6 ⟨Nat.le_of_ble_eq_true rfl, Nat.le_of_ble_eq_true rfl⟩) (fun H49 lo50 Z51 => ?_)
  clear Z hc47
  refine lv_if_eq (tgt := 24) hx hb dX7_wider_9 (by decide) (fun b52 => ?_) (fun b52 => ?_)
  · have hf53 := zYes hf48 b52
    clear hf48
    refine lv_ldc (v := (-1000000001)) hx hb hown (hts _ (zz_m 3 rfl)) dX7_wider_24 ?_
    exact zy_iret X hr hlk Z51 (zEnd hf53) dX7_wider_26
  · have hf54 := zNot hf48 b52
    clear hf48
    refine lv_iload_n hx hb dX7_wider_12 rfl (lv_at hl 2 rfl) ?_
    refine lv_i2l (v := Int32.toInt64 a2) hx hb dX7_wider_13 rfl ?_
    refine lv_lconst (v := 1) hx hb dX7_wider_14 (by decide) ?_
    refine zz_vl (v := Int32.toInt64 1) (by decide) ?_
    refine lv_ldc2 (v := 60) hx hb hown (hts _ (zz_m 2 rfl)) dX7_wider_15 ?_
    refine zz_vl (v := Int32.toInt64 60) (by decide) ?_
    obtain ⟨r55, σ56, hc57, hf58⟩ := zBd hf54
    clear hf54
    refine zy_ci (r0 := r55) (WS1 := zg_W ML ad cA σ56) (TYS1 := zg_T ML cA) Z51 (va_runS (As := [.long (Int32.toInt64 a2), .long (Int32.toInt64 1), .long (Int32.toInt64 60)]) (rest := []) X (c_X7_isIn l D V ad cA (Int32.toInt64 a2) (Int32.toInt64 1) (Int32.toInt64 60) σ46 r55 σ56 hc57 H49.size) (va_cwS 3 hts gX7_wider_X7_isIn rfl rfl rfl zh_X7_isIn ⟨Nat.le_of_ble_eq_true rfl, Nat.le_of_ble_eq_true rfl⟩) (zz_pS Z51) rfl rfl hl.1 rfl (lv_room (Nat.le_of_ble_eq_true rfl)) dX7_wider_18 ⟨Nat.le_of_ble_eq_true rfl, Nat.le_of_ble_eq_true rfl⟩) (fun H59 lo60 Z61 => ?_)
    clear Z51 hc57
    refine lv_if_ne (tgt := 27) hx hb dX7_wider_21 (by decide) (fun b62 => ?_) (fun b62 => ?_)
    · have hf63 := zNot hf58 b62
      clear hf58
      refine lv_aload_n hx hb dX7_wider_27 rfl (lv_at hl 0 rfl) ?_
      obtain ⟨r64, σ65, hc66, hf67⟩ := zBd hf63
      clear hf63
      refine zy_cv (WS1 := zg_W ML ad cA σ65) (TYS1 := zg_T ML cA) Z61 (va_runV (As := []) (rest := []) X (c_X7_laysBy l D V ad cA  σ56 r64 σ65 hc66 H59.size) (cwV 0 hts gX7_wider_X7_laysBy rfl rfl rfl ⟨rfl, zh_X7_laysBy⟩ ⟨Nat.le_of_ble_eq_true rfl, Nat.le_of_ble_eq_true rfl⟩) (zy_pV (ci := 7) Z61 mL_ok mk_0 rfl rfl) rfl rfl hl.1 rfl (lv_room (Nat.le_of_ble_eq_true rfl)) dX7_wider_28 ⟨Nat.le_of_ble_eq_true rfl, Nat.le_of_ble_eq_true rfl⟩) (fun H68 lo69 Z70 => ?_)
      clear Z61 hc66
      refine lv_iconst (v := (-1)) hx hb dX7_wider_31 (by decide) ?_
      refine lv_istore_n (lv' := [(3, .int (-1)), (0, .ref (ad 0)), (1, .int a1), (2, .int a2)]) hx hb dX7_wider_32 rfl hl (by decide) rfl (fun ls72 hl71 => ?_)
      clear hl
      refine lv_bipush (v := 6) hx hb dX7_wider_33 (by decide) ?_
      refine lv_istore (lv' := [(4, .int 6), (3, .int (-1)), (0, .ref (ad 0)), (1, .int a1), (2, .int a2)]) hx hb dX7_wider_35 hl71 (by decide) rfl (fun ls74 hl73 => ?_)
      clear hl71
      exact b37_ zfu (-1) 6 σ65 hf67 _ _ _ Z70 (lv_sub hl73 [2, 3, 4, 1, 0] rfl)
    · have hf75 := zYes hf58 b62
      clear hf58
      refine lv_ldc (v := (-1000000001)) hx hb hown (hts _ (zz_m 3 rfl)) dX7_wider_24 ?_
      exact zy_iret X hr hlk Z61 (zEnd hf75) dX7_wider_26
