def B_X7_without_91 (a1 : Int32) (a2 : Int32) (rec37_ : Int32 → Int32 → Int32 → zg_S → Option (Int32 × zg_S)) (x3 : Int32) (x4 : Int32) (x5 : Int32) (σ : zg_S) : Option (Int32 × zg_S) := rec37_ x3 x4 (x5 + 1) σ
def B_X7_without_84 (a1 : Int32) (a2 : Int32) (rec37_ : Int32 → Int32 → Int32 → zg_S → Option (Int32 × zg_S)) (x5 : Int32) (x6 : Int32) (σ : zg_S) : Option (Int32 × zg_S) := B_X7_without_91 a1 a2 rec37_ x5 x6 x5 σ
def B_X7_without_37 (a1 : Int32) (a2 : Int32) (rec37_ : Int32 → Int32 → Int32 → zg_S → Option (Int32 × zg_S)) (x3 : Int32) (x4 : Int32) (x5 : Int32) (σ : zg_S) : Option (Int32 × zg_S) := (if (σ 1 0) ≤ x5 then (if 0 ≤ x3 then (if a2 = 0 then some (x3, σ) else some (x4, σ)) else some ((-1000000005), σ)) else zbd (f_X7_sets x5 3 0 σ) (fun (r16 : Int32) (σ17 : zg_S) => zbd (f_X7_goesOnMany a1 σ17) (fun (r23 : Int32) (σ24 : zg_S) => zbd (f_X7_laysBack σ24) (fun (r32 : Int32) (σ33 : zg_S) => (if x3 < 0 then B_X7_without_84 a1 a2 rec37_ x5 (σ24 1 3) σ33 else (if (σ24 1 3) ≤ x4 then B_X7_without_91 a1 a2 rec37_ x3 x4 x5 σ33 else B_X7_without_84 a1 a2 rec37_ x5 (σ24 1 3) σ33))))))
def L_X7_without_37 (a1 : Int32) (a2 : Int32) : Nat → Int32 → Int32 → Int32 → zg_S → Option (Int32 × zg_S) := zfix (fun _ _ _ _ => none) (B_X7_without_37 a1 a2)
def f_X7_without (a1 : Int32) (a2 : Int32) (σ : zg_S) : Option (Int32 × zg_S) := zbd (f_X7_isIn (Int32.toInt64 a1) (Int32.toInt64 1) (Int32.toInt64 60) σ) (fun (r45 : Int32) (σ46 : zg_S) => (if r45 = 0 then some ((-1000000001), σ46) else zbd (f_X7_isIn (Int32.toInt64 a2) (Int32.toInt64 0) (Int32.toInt64 1) σ46) (fun (r55 : Int32) (σ56 : zg_S) => (if r55 = 0 then some ((-1000000001), σ56) else zbd (f_X7_laysBy σ56) (fun (r64 : Int32) (σ65 : zg_S) => L_X7_without_37 a1 a2 zfu (-1) 0 0 σ65)))))
set_option maxHeartbeats 4000000 in
set_option maxRecDepth 100000 in
theorem c_X7_without (l : Launch) (D : va_G) (V : zz_V) (ad : Nat → Nat) (cA : Nat → ClassId) (a1 : Int32) (a2 : Int32)  (σ : zg_S) (r0 : Int32) (σf : zg_S) (hf : f_X7_without a1 a2 σ = some (r0, σf)) : zM_I l yX7_without wsX7_without 7 156 D V ML ad cA [.ref (ad 0), .int a1, .int a2] σ r0 σf := by
  intro sz
  refine Met.ofW (cc := cX7_without) (maxL := 7) (ret := (some .int)) (by decide) rfl ?_
  intro p e s m args below meth c s₁ B hml hv
  obtain ⟨rfl, hC⟩ := hv
  have hx := B.exec
  have hb := B.bytes
  have hr := B.returns
  have hts := atoms_spec (ws := wsX7_without) B.pre
  have hown : s.vm.findClass RX7 = some m.cls := findClass_of_methodNamed B.named
  have hlk := B.notSynchronized
  have X : CallFix p m c cX7_without 7 s _ wsX7_without RX7 := ⟨hx, hb, hml, hown, hts⟩
  have Z := zz_enter hC
  generalize va_A (zg_W ML ad cA σ) sz = A at Z ⊢
  have hl := lv_entry ([.ref (ad 0), .int a1, .int a2]) (n := 7) (Nat.le_of_ble_eq_true rfl)
  rw [lg_entry_eq]
  generalize (lg_sl ([.ref (ad 0), .int a1, .int a2]) ++ List.replicate (7 - (lg_sl ([.ref (ad 0), .int a1, .int a2])).length) Slot.unset).toArray = ls at hl ⊢
  have hl : lv_has ls 7 [(0, .ref (ad 0)), (1, .int a1), (2, .int a2)] := hl
  unfold f_X7_without at hf
  have b37_ : ∀ (k37_ : Nat) (x3 : Int32) (x4 : Int32) (x5 : Int32) (σ : zg_S), L_X7_without_37 a1 a2 k37_ x3 x4 x5 σ = some (r0, σf) → ∀ (H : Heap) (locs : List Loc) (ls : Array Slot), zz_S D V A s (zg_W ML ad cA σ) (zg_T ML cA) H locs → lv_has ls 7 [(0, .ref (ad 0)), (1, .int a1), (2, .int a2), (3, .int x3), (4, .int x4), (5, .int x5)] → W p l e (headSpec wsX7_without { frames := 7, cells := 0, slots := 0, locals := 156 }).room s m (List.toArray [.ref (ad 0), .int a1, .int a2]) below meth c H locs 0 0 (MQ below (va_Qi (fun r (_ : Unit) => r = r0) (fun _ t => zz_B D A (zg_W ML ad cA σf) (zg_T ML cA) t) A) (List.toArray [.ref (ad 0), .int a1, .int a2]) s 0 0 A) (F0 m 37 ls []) := by
    intro k37_
    induction k37_ with
    | zero =>
        intro x3 x4 x5 σ hf37_ H37_ locs37_ ls37_ Z37_ hl37_
        exact zNone hf37_
    | succ k37_ ih37_ =>
        intro x3 x4 x5 σ hf37_ H37_ locs37_ ls37_ Z37_ hl37_
        replace hf37_ : B_X7_without_37 a1 a2 (L_X7_without_37 a1 a2 k37_) x3 x4 x5 σ = some (r0, σf) := hf37_
        unfold B_X7_without_37 at hf37_
        have b91_ : ∀ (x3 : Int32) (x4 : Int32) (x5 : Int32) (σ : zg_S), B_X7_without_91 a1 a2 (L_X7_without_37 a1 a2 k37_) x3 x4 x5 σ = some (r0, σf) → ∀ (H : Heap) (locs : List Loc) (ls : Array Slot), zz_S D V A s (zg_W ML ad cA σ) (zg_T ML cA) H locs → lv_has ls 7 [(0, .ref (ad 0)), (1, .int a1), (2, .int a2), (3, .int x3), (4, .int x4), (5, .int x5)] → W p l e (headSpec wsX7_without { frames := 7, cells := 0, slots := 0, locals := 156 }).room s m (List.toArray [.ref (ad 0), .int a1, .int a2]) below meth c H locs 0 0 (MQ below (va_Qi (fun r (_ : Unit) => r = r0) (fun _ t => zz_B D A (zg_W ML ad cA σf) (zg_T ML cA) t) A) (List.toArray [.ref (ad 0), .int a1, .int a2]) s 0 0 A) (F0 m 91 ls []) := by
          intro x3 x4 x5 σ hf91_ H91_ locs91_ ls91_ Z91_ hl91_
          unfold B_X7_without_91 at hf91_
          refine lv_iinc (v := (x5 + 1)) (lv' := [(5, .int (x5 + 1)), (0, .ref (ad 0)), (1, .int a1), (2, .int a2), (3, .int x3), (4, .int x4)]) hx hb dX7_without_91 hl91_ (k := 5) rfl rfl (by decide) rfl (fun ls2 hl1 => ?_)
          clear hl91_
          refine lv_goto (tgt := 37) hx hb dX7_without_94 (by decide) ?_
          exact ih37_ x3 x4 (x5 + 1) σ hf91_ _ _ _ Z91_ (lv_sub hl1 [1, 2, 3, 4, 5, 0] rfl)
        have b84_ : ∀ (x5 : Int32) (x6 : Int32) (σ : zg_S), B_X7_without_84 a1 a2 (L_X7_without_37 a1 a2 k37_) x5 x6 σ = some (r0, σf) → ∀ (H : Heap) (locs : List Loc) (ls : Array Slot), zz_S D V A s (zg_W ML ad cA σ) (zg_T ML cA) H locs → lv_has ls 7 [(0, .ref (ad 0)), (1, .int a1), (2, .int a2), (5, .int x5), (6, .int x6)] → W p l e (headSpec wsX7_without { frames := 7, cells := 0, slots := 0, locals := 156 }).room s m (List.toArray [.ref (ad 0), .int a1, .int a2]) below meth c H locs 0 0 (MQ below (va_Qi (fun r (_ : Unit) => r = r0) (fun _ t => zz_B D A (zg_W ML ad cA σf) (zg_T ML cA) t) A) (List.toArray [.ref (ad 0), .int a1, .int a2]) s 0 0 A) (F0 m 84 ls []) := by
          intro x5 x6 σ hf84_ H84_ locs84_ ls84_ Z84_ hl84_
          unfold B_X7_without_84 at hf84_
          refine lv_iload hx hb dX7_without_84 (lv_at hl84_ 3 rfl) ?_
          refine lv_istore_n (lv' := [(3, .int x5), (0, .ref (ad 0)), (1, .int a1), (2, .int a2), (5, .int x5), (6, .int x6)]) hx hb dX7_without_86 rfl hl84_ (by decide) rfl (fun ls4 hl3 => ?_)
          clear hl84_
          refine lv_iload hx hb dX7_without_87 (lv_at hl3 5 rfl) ?_
          refine lv_istore (lv' := [(4, .int x6), (3, .int x5), (0, .ref (ad 0)), (1, .int a1), (2, .int a2), (5, .int x5), (6, .int x6)]) hx hb dX7_without_89 hl3 (by decide) rfl (fun ls6 hl5 => ?_)
          clear hl3
          exact b91_ x5 x6 x5 σ hf84_ _ _ _ Z84_ (lv_sub hl5 [2, 3, 4, 1, 0, 5] rfl)
        refine lv_iload hx hb dX7_without_37 (lv_at hl37_ 5 rfl) ?_
        refine lv_aload_n hx hb dX7_without_39 rfl (lv_at hl37_ 0 rfl) ?_
        refine zy_get (v := .ref (ad 1)) X Z37_ mL_ok mk_0 rfl rfl (fun w h => List.mem_cons_of_mem _ (List.mem_append_right _ h)) 0 rfl (zz_m 3 rfl) rfl dX7_without_40 ?_
        refine lv_iconst (v := 0) hx hb dX7_without_43 (by decide) ?_
        refine zy_ild X Z37_ mL_ok mk_1 ml_1 (zz_in 0 3047 rfl) dX7_without_44 ?_
        refine zz_v (v := σ 1 0) rfl ?_
        refine lv_icmp_ge (tgt := 97) hx hb dX7_without_45 (by decide) (fun b7 => ?_) (fun b7 => ?_)
        · have hf8 := zYes hf37_ b7
          clear hf37_
          refine lv_iload_n hx hb dX7_without_97 rfl (lv_at hl37_ 3 rfl) ?_
          refine lv_if_ge (tgt := 106) hx hb dX7_without_98 (by decide) (fun b9 => ?_) (fun b9 => ?_)
          · have hf10 := zYes hf8 b9
            clear hf8
            refine lv_iload_n hx hb dX7_without_106 rfl (lv_at hl37_ 2 rfl) ?_
            refine lv_if_ne (tgt := 114) hx hb dX7_without_107 (by decide) (fun b11 => ?_) (fun b11 => ?_)
            · have hf12 := zNot hf10 b11
              clear hf10
              refine lv_iload hx hb dX7_without_114 (lv_at hl37_ 4 rfl) ?_
              exact zy_iret X hr hlk Z37_ (zEnd hf12) dX7_without_116
            · have hf13 := zYes hf10 b11
              clear hf10
              refine lv_iload_n hx hb dX7_without_110 rfl (lv_at hl37_ 3 rfl) ?_
              refine lv_goto (tgt := 116) hx hb dX7_without_111 (by decide) ?_
              exact zy_iret X hr hlk Z37_ (zEnd hf13) dX7_without_116
          · have hf14 := zNot hf8 b9
            clear hf8
            refine lv_ldc (v := (-1000000005)) hx hb hown (hts _ (zz_m 4 rfl)) dX7_without_101 ?_
            refine lv_goto (tgt := 116) hx hb dX7_without_103 (by decide) ?_
            exact zy_iret X hr hlk Z37_ (zEnd hf14) dX7_without_116
        · have hf15 := zNot hf37_ b7
          clear hf37_
          refine lv_aload_n hx hb dX7_without_48 rfl (lv_at hl37_ 0 rfl) ?_
          refine lv_iload hx hb dX7_without_49 (lv_at hl37_ 5 rfl) ?_
          refine lv_iconst (v := 3) hx hb dX7_without_51 (by decide) ?_
          refine lv_iconst (v := 0) hx hb dX7_without_52 (by decide) ?_
          obtain ⟨r16, σ17, hc18, hf19⟩ := zBd hf15
          clear hf15
          refine zy_cv (WS1 := zg_W ML ad cA σ17) (TYS1 := zg_T ML cA) Z37_ (va_runV (As := [.int x5, .int 3, .int 0]) (rest := []) X (c_X7_sets l D V ad cA x5 3 0 σ r16 σ17 hc18 H37_.size) (cwV 3 hts gX7_without_X7_sets rfl rfl rfl ⟨rfl, zh_X7_sets⟩ ⟨Nat.le_of_ble_eq_true rfl, Nat.le_of_ble_eq_true rfl⟩) (zy_pV (ci := 7) Z37_ mL_ok mk_0 rfl rfl) rfl rfl hl37_.1 rfl (lv_room (Nat.le_of_ble_eq_true rfl)) dX7_without_53 ⟨Nat.le_of_ble_eq_true rfl, Nat.le_of_ble_eq_true rfl⟩) (fun H20 lo21 Z22 => ?_)
          clear Z37_ hc18
          refine lv_aload_n hx hb dX7_without_56 rfl (lv_at hl37_ 0 rfl) ?_
          refine lv_iload_n hx hb dX7_without_57 rfl (lv_at hl37_ 1 rfl) ?_
          obtain ⟨r23, σ24, hc25, hf26⟩ := zBd hf19
          clear hf19
          refine zy_cv (WS1 := zg_W ML ad cA σ24) (TYS1 := zg_T ML cA) Z22 (va_runV (As := [.int a1]) (rest := []) X (c_X7_goesOnMany l D V ad cA a1 σ17 r23 σ24 hc25 H20.size) (cwV 1 hts gX7_without_X7_goesOnMany rfl rfl rfl ⟨rfl, zh_X7_goesOnMany⟩ ⟨Nat.le_of_ble_eq_true rfl, Nat.le_of_ble_eq_true rfl⟩) (zy_pV (ci := 7) Z22 mL_ok mk_0 rfl rfl) rfl rfl hl37_.1 rfl (lv_room (Nat.le_of_ble_eq_true rfl)) dX7_without_58 ⟨Nat.le_of_ble_eq_true rfl, Nat.le_of_ble_eq_true rfl⟩) (fun H27 lo28 Z29 => ?_)
          clear Z22 hc25
          refine lv_aload_n hx hb dX7_without_61 rfl (lv_at hl37_ 0 rfl) ?_
          refine zy_get (v := .ref (ad 1)) X Z29 mL_ok mk_0 rfl rfl (fun w h => List.mem_cons_of_mem _ (List.mem_append_right _ h)) 0 rfl (zz_m 3 rfl) rfl dX7_without_62 ?_
          refine lv_iconst (v := 3) hx hb dX7_without_65 (by decide) ?_
          refine zy_ild X Z29 mL_ok mk_1 ml_1 (zz_in 3 3047 rfl) dX7_without_66 ?_
          refine zz_v (v := σ24 1 3) rfl ?_
          refine lv_istore (lv' := [(6, .int (σ24 1 3)), (0, .ref (ad 0)), (1, .int a1), (2, .int a2), (3, .int x3), (4, .int x4), (5, .int x5)]) hx hb dX7_without_67 hl37_ (by decide) rfl (fun ls31 hl30 => ?_)
          clear hl37_
          refine lv_aload_n hx hb dX7_without_69 rfl (lv_at hl30 1 rfl) ?_
          obtain ⟨r32, σ33, hc34, hf35⟩ := zBd hf26
          clear hf26
          refine zy_cv (WS1 := zg_W ML ad cA σ33) (TYS1 := zg_T ML cA) Z29 (va_runV (As := []) (rest := []) X (c_X7_laysBack l D V ad cA  σ24 r32 σ33 hc34 H27.size) (cwV 0 hts gX7_without_X7_laysBack rfl rfl rfl ⟨rfl, zh_X7_laysBack⟩ ⟨Nat.le_of_ble_eq_true rfl, Nat.le_of_ble_eq_true rfl⟩) (zy_pV (ci := 7) Z29 mL_ok mk_0 rfl rfl) rfl rfl hl30.1 rfl (lv_room (Nat.le_of_ble_eq_true rfl)) dX7_without_70 ⟨Nat.le_of_ble_eq_true rfl, Nat.le_of_ble_eq_true rfl⟩) (fun H36 lo37 Z38 => ?_)
          clear Z29 hc34
          refine lv_iload_n hx hb dX7_without_73 rfl (lv_at hl30 4 rfl) ?_
          refine lv_if_lt (tgt := 84) hx hb dX7_without_74 (by decide) (fun b39 => ?_) (fun b39 => ?_)
          · have hf40 := zYes hf35 b39
            clear hf35
            exact b84_ x5 (σ24 1 3) σ33 hf40 _ _ _ Z38 (lv_sub hl30 [1, 2, 3, 6, 0] rfl)
          · have hf41 := zNot hf35 b39
            clear hf35
            refine lv_iload hx hb dX7_without_77 (lv_at hl30 0 rfl) ?_
            refine lv_iload hx hb dX7_without_79 (lv_at hl30 5 rfl) ?_
            refine lv_icmp_le (tgt := 91) hx hb dX7_without_81 (by decide) (fun b42 => ?_) (fun b42 => ?_)
            · have hf43 := zYes hf41 b42
              clear hf41
              exact b91_ x3 x4 x5 σ33 hf43 _ _ _ Z38 (lv_sub hl30 [1, 2, 3, 4, 5, 6] rfl)
            · have hf44 := zNot hf41 b42
              clear hf41
              exact b84_ x5 (σ24 1 3) σ33 hf44 _ _ _ Z38 (lv_sub hl30 [1, 2, 3, 6, 0] rfl)
  refine lv_iload_n hx hb dX7_without_0 rfl (lv_at hl 1 rfl) ?_
  refine lv_i2l (v := Int32.toInt64 a1) hx hb dX7_without_1 rfl ?_
  refine lv_lconst (v := 1) hx hb dX7_without_2 (by decide) ?_
  refine zz_vl (v := Int32.toInt64 1) (by decide) ?_
  refine lv_ldc2 (v := 60) hx hb hown (hts _ (zz_m 1 rfl)) dX7_without_3 ?_
  refine zz_vl (v := Int32.toInt64 60) (by decide) ?_
  obtain ⟨r45, σ46, hc47, hf48⟩ := zBd hf
  clear hf
  refine zy_ci (r0 := r45) (WS1 := zg_W ML ad cA σ46) (TYS1 := zg_T ML cA) Z (va_runS (As := [.long (Int32.toInt64 a1), .long (Int32.toInt64 1), .long (Int32.toInt64 60)]) (rest := []) X (c_X7_isIn l D V ad cA (Int32.toInt64 a1) (Int32.toInt64 1) (Int32.toInt64 60) σ r45 σ46 hc47 s.heap.size) (va_cwS 3 hts gX7_without_X7_isIn rfl rfl rfl zh_X7_isIn ⟨Nat.le_of_ble_eq_true rfl, Nat.le_of_ble_eq_true rfl⟩) (zz_pS Z) rfl rfl hl.1 rfl (lv_room (Nat.le_of_ble_eq_true rfl)) dX7_without_6 ⟨Nat.le_of_ble_eq_true rfl, Nat.le_of_ble_eq_true rfl⟩) (fun H49 lo50 Z51 => ?_)
  clear Z hc47
  refine lv_if_eq (tgt := 22) hx hb dX7_without_9 (by decide) (fun b52 => ?_) (fun b52 => ?_)
  · have hf53 := zYes hf48 b52
    clear hf48
    refine lv_ldc (v := (-1000000001)) hx hb hown (hts _ (zz_m 2 rfl)) dX7_without_22 ?_
    exact zy_iret X hr hlk Z51 (zEnd hf53) dX7_without_24
  · have hf54 := zNot hf48 b52
    clear hf48
    refine lv_iload_n hx hb dX7_without_12 rfl (lv_at hl 2 rfl) ?_
    refine lv_i2l (v := Int32.toInt64 a2) hx hb dX7_without_13 rfl ?_
    refine lv_lconst (v := 0) hx hb dX7_without_14 (by decide) ?_
    refine zz_vl (v := Int32.toInt64 0) (by decide) ?_
    refine lv_lconst (v := 1) hx hb dX7_without_15 (by decide) ?_
    refine zz_vl (v := Int32.toInt64 1) (by decide) ?_
    obtain ⟨r55, σ56, hc57, hf58⟩ := zBd hf54
    clear hf54
    refine zy_ci (r0 := r55) (WS1 := zg_W ML ad cA σ56) (TYS1 := zg_T ML cA) Z51 (va_runS (As := [.long (Int32.toInt64 a2), .long (Int32.toInt64 0), .long (Int32.toInt64 1)]) (rest := []) X (c_X7_isIn l D V ad cA (Int32.toInt64 a2) (Int32.toInt64 0) (Int32.toInt64 1) σ46 r55 σ56 hc57 H49.size) (va_cwS 3 hts gX7_without_X7_isIn rfl rfl rfl zh_X7_isIn ⟨Nat.le_of_ble_eq_true rfl, Nat.le_of_ble_eq_true rfl⟩) (zz_pS Z51) rfl rfl hl.1 rfl (lv_room (Nat.le_of_ble_eq_true rfl)) dX7_without_16 ⟨Nat.le_of_ble_eq_true rfl, Nat.le_of_ble_eq_true rfl⟩) (fun H59 lo60 Z61 => ?_)
    clear Z51 hc57
    refine lv_if_ne (tgt := 25) hx hb dX7_without_19 (by decide) (fun b62 => ?_) (fun b62 => ?_)
    · have hf63 := zNot hf58 b62
      clear hf58
      refine lv_aload_n hx hb dX7_without_25 rfl (lv_at hl 0 rfl) ?_
      obtain ⟨r64, σ65, hc66, hf67⟩ := zBd hf63
      clear hf63
      refine zy_cv (WS1 := zg_W ML ad cA σ65) (TYS1 := zg_T ML cA) Z61 (va_runV (As := []) (rest := []) X (c_X7_laysBy l D V ad cA  σ56 r64 σ65 hc66 H59.size) (cwV 0 hts gX7_without_X7_laysBy rfl rfl rfl ⟨rfl, zh_X7_laysBy⟩ ⟨Nat.le_of_ble_eq_true rfl, Nat.le_of_ble_eq_true rfl⟩) (zy_pV (ci := 7) Z61 mL_ok mk_0 rfl rfl) rfl rfl hl.1 rfl (lv_room (Nat.le_of_ble_eq_true rfl)) dX7_without_26 ⟨Nat.le_of_ble_eq_true rfl, Nat.le_of_ble_eq_true rfl⟩) (fun H68 lo69 Z70 => ?_)
      clear Z61 hc66
      refine lv_iconst (v := (-1)) hx hb dX7_without_29 (by decide) ?_
      refine lv_istore_n (lv' := [(3, .int (-1)), (0, .ref (ad 0)), (1, .int a1), (2, .int a2)]) hx hb dX7_without_30 rfl hl (by decide) rfl (fun ls72 hl71 => ?_)
      clear hl
      refine lv_iconst (v := 0) hx hb dX7_without_31 (by decide) ?_
      refine lv_istore (lv' := [(4, .int 0), (3, .int (-1)), (0, .ref (ad 0)), (1, .int a1), (2, .int a2)]) hx hb dX7_without_32 hl71 (by decide) rfl (fun ls74 hl73 => ?_)
      clear hl71
      refine lv_iconst (v := 0) hx hb dX7_without_34 (by decide) ?_
      refine lv_istore (lv' := [(5, .int 0), (4, .int 0), (3, .int (-1)), (0, .ref (ad 0)), (1, .int a1), (2, .int a2)]) hx hb dX7_without_35 hl73 (by decide) rfl (fun ls76 hl75 => ?_)
      clear hl73
      exact b37_ zfu (-1) 0 0 σ65 hf67 _ _ _ Z70 (lv_sub hl75 [3, 4, 5, 2, 1, 0] rfl)
    · have hf77 := zYes hf58 b62
      clear hf58
      refine lv_ldc (v := (-1000000001)) hx hb hown (hts _ (zz_m 2 rfl)) dX7_without_22 ?_
      exact zy_iret X hr hlk Z61 (zEnd hf77) dX7_without_24
