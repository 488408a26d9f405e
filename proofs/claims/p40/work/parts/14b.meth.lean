def B_X6_without_109 (a1 : Int32) (a2 : Int32) (rec43_ : Int32 → Int32 → Int32 → zg_S → Option (Int32 × zg_S)) (x3 : Int32) (x4 : Int32) (x5 : Int32) (σ : zg_S) : Option (Int32 × zg_S) := rec43_ x3 x4 (x5 + 1) σ
def B_X6_without_43 (a1 : Int32) (a2 : Int32) (rec43_ : Int32 → Int32 → Int32 → zg_S → Option (Int32 × zg_S)) (x3 : Int32) (x4 : Int32) (x5 : Int32) (σ : zg_S) : Option (Int32 × zg_S) := (if (σ 153 3) ≤ x5 then (if a2 = 0 then some (x3, σ) else some (x4, σ)) else zbd (f_X0_takeOver 165 153 σ) (fun (r9 : Int32) (σ10 : zg_S) => (if zin x5 9 = true then zlet (zg_up σ10 (166 + 2 + (Int32.toNatClampNeg x5)) 3 0) (fun (σ19 : zg_S) => zbd (f_X6_thinkOn a1 σ19) (fun (r25 : Int32) (σ26 : zg_S) => (if (σ26 165 10) ≤ x4 then B_X6_without_109 a1 a2 rec43_ x3 x4 x5 σ26 else B_X6_without_109 a1 a2 rec43_ x5 (σ26 165 10) x5 σ26))) else none)))
def L_X6_without_43 (a1 : Int32) (a2 : Int32) : Nat → Int32 → Int32 → Int32 → zg_S → Option (Int32 × zg_S) := zfix (fun _ _ _ _ => none) (B_X6_without_43 a1 a2)
def f_X6_without (a1 : Int32) (a2 : Int32) (σ : zg_S) : Option (Int32 × zg_S) := zbd (f_X6_within a1 1 60 σ) (fun (r39 : Int32) (σ40 : zg_S) => (if r39 = 0 then some ((-1000000001), σ40) else zbd (f_X6_within a2 0 1 σ40) (fun (r49 : Int32) (σ50 : zg_S) => (if r49 = 0 then some ((-1000000001), σ50) else (if (σ50 153 3) = 0 then some ((-1000000005), σ50) else L_X6_without_43 a1 a2 zfu 0 (-1) 0 σ50)))))
set_option maxHeartbeats 4000000 in
set_option maxRecDepth 100000 in
theorem c_X6_without (l : Launch) (D : va_G) (V : zz_V) (ad : Nat → Nat) (cA : Nat → ClassId) (a1 : Int32) (a2 : Int32)  (σ : zg_S) (r0 : Int32) (σf : zg_S) (hf : f_X6_without a1 a2 σ = some (r0, σf)) : zM_I l yX6_without wsX6_without 7 159 D V XL ad cA [.ref (ad 0), .int a1, .int a2] σ r0 σf := by
  intro sz
  refine Met.ofW (cc := cX6_without) (maxL := 6) (ret := (some .int)) (by decide) rfl ?_
  intro p e s m args below meth c s₁ B hml hv
  obtain ⟨rfl, hC⟩ := hv
  have hx := B.exec
  have hb := B.bytes
  have hr := B.returns
  have hts := atoms_spec (ws := wsX6_without) B.pre
  have hown : s.vm.findClass RX6 = some m.cls := findClass_of_methodNamed B.named
  have hlk := B.notSynchronized
  have X : CallFix p m c cX6_without 6 s _ wsX6_without RX6 := ⟨hx, hb, hml, hown, hts⟩
  have Z := zz_enter hC
  generalize va_A (zg_W XL ad cA σ) sz = A at Z ⊢
  have hl := lv_entry ([.ref (ad 0), .int a1, .int a2]) (n := 6) (Nat.le_of_ble_eq_true rfl)
  rw [lg_entry_eq]
  generalize (lg_sl ([.ref (ad 0), .int a1, .int a2]) ++ List.replicate (6 - (lg_sl ([.ref (ad 0), .int a1, .int a2])).length) Slot.unset).toArray = ls at hl ⊢
  have hl : lv_has ls 6 [(0, .ref (ad 0)), (1, .int a1), (2, .int a2)] := hl
  unfold f_X6_without at hf
  have b43_ : ∀ (k43_ : Nat) (x3 : Int32) (x4 : Int32) (x5 : Int32) (σ : zg_S), L_X6_without_43 a1 a2 k43_ x3 x4 x5 σ = some (r0, σf) → ∀ (H : Heap) (locs : List Loc) (ls : Array Slot), zz_S D V A s (zg_W XL ad cA σ) (zg_T XL cA) H locs → lv_has ls 6 [(0, .ref (ad 0)), (1, .int a1), (2, .int a2), (3, .int x3), (4, .int x4), (5, .int x5)] → W p l e (headSpec wsX6_without { frames := 7, cells := 0, slots := 0, locals := 159 }).room s m (List.toArray [.ref (ad 0), .int a1, .int a2]) below meth c H locs 0 0 (MQ below (va_Qi (fun r (_ : Unit) => r = r0) (fun _ t => zz_B D A (zg_W XL ad cA σf) (zg_T XL cA) t) A) (List.toArray [.ref (ad 0), .int a1, .int a2]) s 0 0 A) (F0 m 43 ls []) := by
    intro k43_
    induction k43_ with
    | zero =>
        intro x3 x4 x5 σ hf43_ H43_ locs43_ ls43_ Z43_ hl43_
        exact zNone hf43_
    | succ k43_ ih43_ =>
        intro x3 x4 x5 σ hf43_ H43_ locs43_ ls43_ Z43_ hl43_
        replace hf43_ : B_X6_without_43 a1 a2 (L_X6_without_43 a1 a2 k43_) x3 x4 x5 σ = some (r0, σf) := hf43_
        unfold B_X6_without_43 at hf43_
        have b109_ : ∀ (x3 : Int32) (x4 : Int32) (x5 : Int32) (σ : zg_S), B_X6_without_109 a1 a2 (L_X6_without_43 a1 a2 k43_) x3 x4 x5 σ = some (r0, σf) → ∀ (H : Heap) (locs : List Loc) (ls : Array Slot), zz_S D V A s (zg_W XL ad cA σ) (zg_T XL cA) H locs → lv_has ls 6 [(0, .ref (ad 0)), (1, .int a1), (2, .int a2), (3, .int x3), (4, .int x4), (5, .int x5)] → W p l e (headSpec wsX6_without { frames := 7, cells := 0, slots := 0, locals := 159 }).room s m (List.toArray [.ref (ad 0), .int a1, .int a2]) below meth c H locs 0 0 (MQ below (va_Qi (fun r (_ : Unit) => r = r0) (fun _ t => zz_B D A (zg_W XL ad cA σf) (zg_T XL cA) t) A) (List.toArray [.ref (ad 0), .int a1, .int a2]) s 0 0 A) (F0 m 109 ls []) := by
          intro x3 x4 x5 σ hf109_ H109_ locs109_ ls109_ Z109_ hl109_
          unfold B_X6_without_109 at hf109_
          refine lv_iinc (v := (x5 + 1)) (lv' := [(5, .int (x5 + 1)), (0, .ref (ad 0)), (1, .int a1), (2, .int a2), (3, .int x3), (4, .int x4)]) hx hb dX6_without_109 hl109_ (k := 5) rfl rfl (by decide) rfl (fun ls2 hl1 => ?_)
          clear hl109_
          refine lv_goto (tgt := 43) hx hb dX6_without_112 (by decide) ?_
          exact ih43_ x3 x4 (x5 + 1) σ hf109_ _ _ _ Z109_ (lv_sub hl1 [1, 2, 3, 4, 5, 0] rfl)
        refine lv_iload hx hb dX6_without_43 (lv_at hl43_ 5 rfl) ?_
        refine lv_aload_n hx hb dX6_without_45 rfl (lv_at hl43_ 0 rfl) ?_
        refine zy_get (v := .ref (ad 153)) X Z43_ xL_ok xk_0 rfl rfl (fun w h => List.mem_cons_of_mem _ (List.mem_append_left _ (List.mem_append_left _ (List.mem_append_left _ (List.mem_append_right _ h))))) 1 rfl (zz_m 2 rfl) rfl dX6_without_46 ?_
        refine zy_get (v := .int (σ 153 3)) X Z43_ xL_ok xk_153 rfl rfl (fun w h => List.mem_cons_of_mem _ (List.mem_append_left _ (List.mem_append_left _ (List.mem_append_right _ h)))) 3 rfl (zz_m 3 rfl) rfl dX6_without_49 ?_
        refine lv_icmp_ge (tgt := 115) hx hb dX6_without_52 (by decide) (fun b3 => ?_) (fun b3 => ?_)
        · have hf4 := zYes hf43_ b3
          clear hf43_
          refine lv_iload_n hx hb dX6_without_115 rfl (lv_at hl43_ 2 rfl) ?_
          refine lv_if_ne (tgt := 123) hx hb dX6_without_116 (by decide) (fun b5 => ?_) (fun b5 => ?_)
          · have hf6 := zNot hf4 b5
            clear hf4
            refine lv_iload hx hb dX6_without_123 (lv_at hl43_ 4 rfl) ?_
            exact zy_iret X hr hlk Z43_ (zEnd hf6) dX6_without_125
          · have hf7 := zYes hf4 b5
            clear hf4
            refine lv_iload_n hx hb dX6_without_119 rfl (lv_at hl43_ 3 rfl) ?_
            refine lv_goto (tgt := 125) hx hb dX6_without_120 (by decide) ?_
            exact zy_iret X hr hlk Z43_ (zEnd hf7) dX6_without_125
        · have hf8 := zNot hf43_ b3
          clear hf43_
          refine lv_aload_n hx hb dX6_without_55 rfl (lv_at hl43_ 0 rfl) ?_
          refine zy_get (v := .ref (ad 165)) X Z43_ xL_ok xk_0 rfl rfl (fun w h => List.mem_cons_of_mem _ (List.mem_append_left _ (List.mem_append_left _ (List.mem_append_left _ (List.mem_append_right _ h))))) 2 rfl (zz_m 5 rfl) rfl dX6_without_56 ?_
          refine lv_aload_n hx hb dX6_without_59 rfl (lv_at hl43_ 0 rfl) ?_
          refine zy_get (v := .ref (ad 153)) X Z43_ xL_ok xk_0 rfl rfl (fun w h => List.mem_cons_of_mem _ (List.mem_append_left _ (List.mem_append_left _ (List.mem_append_left _ (List.mem_append_right _ h))))) 1 rfl (zz_m 2 rfl) rfl dX6_without_60 ?_
          obtain ⟨r9, σ10, hc11, hf12⟩ := zBd hf8
          clear hf8
          refine zy_cv (WS1 := zg_W XL ad cA σ10) (TYS1 := zg_T XL cA) Z43_ (va_runV (As := [.ref (ad 153)]) (rest := []) X (c_X0_takeOver l D V ad cA 165 153 xk_165 xk_153 σ r9 σ10 hc11 H43_.size) (cwV 1 hts gX6_without_X0_takeOver rfl rfl rfl ⟨rfl, zh_X0_takeOver⟩ ⟨Nat.le_of_ble_eq_true rfl, Nat.le_of_ble_eq_true rfl⟩) (zy_pV (ci := 0) Z43_ xL_ok xk_165 rfl rfl) rfl rfl hl43_.1 rfl (lv_room (Nat.le_of_ble_eq_true rfl)) dX6_without_63 ⟨Nat.le_of_ble_eq_true rfl, Nat.le_of_ble_eq_true rfl⟩) (fun H13 lo14 Z15 => ?_)
          clear Z43_ hc11
          refine lv_aload_n hx hb dX6_without_66 rfl (lv_at hl43_ 0 rfl) ?_
          refine zy_get (v := .ref (ad 165)) X Z15 xL_ok xk_0 rfl rfl (fun w h => List.mem_cons_of_mem _ (List.mem_append_left _ (List.mem_append_left _ (List.mem_append_left _ (List.mem_append_right _ h))))) 2 rfl (zz_m 5 rfl) rfl dX6_without_67 ?_
          refine zy_get (v := .ref (ad 166)) X Z15 xL_ok xk_165 rfl rfl (fun w h => List.mem_cons_of_mem _ (List.mem_append_left _ (List.mem_append_left _ (List.mem_append_right _ h)))) 1 rfl (zz_m 6 rfl) rfl dX6_without_70 ?_
          refine lv_iload hx hb dX6_without_73 (lv_at hl43_ 5 rfl) ?_
          obtain ⟨⟨i16, j17⟩, hf18⟩ := zG hf12
          clear hf12
          refine zy_ald (v := (166 + 2 + (Int32.toNatClampNeg x5))) (C := RX4) X Z15 xL_ok xk_166 rfl rfl xl_166 rfl i16 rfl dX6_without_75 ?_
          refine lv_iconst (v := 0) hx hb dX6_without_76 (by decide) ?_
          obtain ⟨σ19, es20, hf21⟩ := zLet hf18
          clear hf18
          refine zy_put (v := 0) (σ' := σ19) X Z15 xL_ok (xS xk_166 j17) rfl rfl (fun w h => List.mem_cons_of_mem _ (List.mem_append_left _ (List.mem_append_right _ h))) tyX4 tyX4_ok nmX4 3 rfl (zz_m 7 rfl) rfl rfl rfl (fun _ => rfl) (fun _ => rfl) es20 dX6_without_77 (fun H22 lo23 Z24 => ?_)
          clear Z15 es20
          refine lv_aload_n hx hb dX6_without_80 rfl (lv_at hl43_ 0 rfl) ?_
          refine lv_iload_n hx hb dX6_without_81 rfl (lv_at hl43_ 1 rfl) ?_
          obtain ⟨r25, σ26, hc27, hf28⟩ := zBd hf21
          clear hf21
          refine zy_cv (WS1 := zg_W XL ad cA σ26) (TYS1 := zg_T XL cA) Z24 (va_runV (As := [.int a1]) (rest := []) X (c_X6_thinkOn l D V ad cA a1 σ19 r25 σ26 hc27 H22.size) (cwV 1 hts gX6_without_X6_thinkOn rfl rfl rfl ⟨rfl, zh_X6_thinkOn⟩ ⟨Nat.le_of_ble_eq_true rfl, Nat.le_of_ble_eq_true rfl⟩) (zy_pV (ci := 6) Z24 xL_ok xk_0 rfl rfl) rfl rfl hl43_.1 rfl (lv_room (Nat.le_of_ble_eq_true rfl)) dX6_without_82 ⟨Nat.le_of_ble_eq_true rfl, Nat.le_of_ble_eq_true rfl⟩) (fun H29 lo30 Z31 => ?_)
          clear Z24 hc27
          refine lv_aload_n hx hb dX6_without_85 rfl (lv_at hl43_ 0 rfl) ?_
          refine zy_get (v := .ref (ad 165)) X Z31 xL_ok xk_0 rfl rfl (fun w h => List.mem_cons_of_mem _ (List.mem_append_left _ (List.mem_append_left _ (List.mem_append_left _ (List.mem_append_right _ h))))) 2 rfl (zz_m 5 rfl) rfl dX6_without_86 ?_
          refine zy_get (v := .int (σ26 165 10)) X Z31 xL_ok xk_165 rfl rfl (fun w h => List.mem_cons_of_mem _ (List.mem_append_left _ (List.mem_append_left _ (List.mem_append_right _ h)))) 10 rfl (zz_m 8 rfl) rfl dX6_without_89 ?_
          refine lv_iload hx hb dX6_without_92 (lv_at hl43_ 4 rfl) ?_
          refine lv_icmp_le (tgt := 109) hx hb dX6_without_94 (by decide) (fun b32 => ?_) (fun b32 => ?_)
          · have hf33 := zYes hf28 b32
            clear hf28
            exact b109_ x3 x4 x5 σ26 hf33 _ _ _ Z31 (lv_sub hl43_ [0, 1, 2, 3, 4, 5] rfl)
          · have hf34 := zNot hf28 b32
            clear hf28
            refine lv_iload hx hb dX6_without_97 (lv_at hl43_ 5 rfl) ?_
            refine lv_istore_n (lv' := [(3, .int x5), (0, .ref (ad 0)), (1, .int a1), (2, .int a2), (4, .int x4), (5, .int x5)]) hx hb dX6_without_99 rfl hl43_ (by decide) rfl (fun ls36 hl35 => ?_)
            clear hl43_
            refine lv_aload_n hx hb dX6_without_100 rfl (lv_at hl35 1 rfl) ?_
            refine zy_get (v := .ref (ad 165)) X Z31 xL_ok xk_0 rfl rfl (fun w h => List.mem_cons_of_mem _ (List.mem_append_left _ (List.mem_append_left _ (List.mem_append_left _ (List.mem_append_right _ h))))) 2 rfl (zz_m 5 rfl) rfl dX6_without_101 ?_
            refine zy_get (v := .int (σ26 165 10)) X Z31 xL_ok xk_165 rfl rfl (fun w h => List.mem_cons_of_mem _ (List.mem_append_left _ (List.mem_append_left _ (List.mem_append_right _ h)))) 10 rfl (zz_m 8 rfl) rfl dX6_without_104 ?_
            refine lv_istore (lv' := [(4, .int (σ26 165 10)), (3, .int x5), (0, .ref (ad 0)), (1, .int a1), (2, .int a2), (5, .int x5)]) hx hb dX6_without_107 hl35 (by decide) rfl (fun ls38 hl37 => ?_)
            clear hl35
            exact b109_ x5 (σ26 165 10) x5 σ26 hf34 _ _ _ Z31 (lv_sub hl37 [2, 3, 4, 1, 0, 5] rfl)
  refine lv_iload_n hx hb dX6_without_0 rfl (lv_at hl 1 rfl) ?_
  refine lv_iconst (v := 1) hx hb dX6_without_1 (by decide) ?_
  refine lv_bipush (v := 60) hx hb dX6_without_2 (by decide) ?_
  obtain ⟨r39, σ40, hc41, hf42⟩ := zBd hf
  clear hf
  refine zy_ci (r0 := r39) (WS1 := zg_W XL ad cA σ40) (TYS1 := zg_T XL cA) Z (va_runS (As := [.int a1, .int 1, .int 60]) (rest := []) X (c_X6_within l D V ad cA a1 1 60 σ r39 σ40 hc41 s.heap.size) (va_cwS 3 hts gX6_without_X6_within rfl rfl rfl zh_X6_within ⟨Nat.le_of_ble_eq_true rfl, Nat.le_of_ble_eq_true rfl⟩) (zz_pS Z) rfl rfl hl.1 rfl (lv_room (Nat.le_of_ble_eq_true rfl)) dX6_without_4 ⟨Nat.le_of_ble_eq_true rfl, Nat.le_of_ble_eq_true rfl⟩) (fun H43 lo44 Z45 => ?_)
  clear Z hc41
  refine lv_if_eq (tgt := 19) hx hb dX6_without_7 (by decide) (fun b46 => ?_) (fun b46 => ?_)
  · have hf47 := zYes hf42 b46
    clear hf42
    refine lv_ldc (v := (-1000000001)) hx hb hown (hts _ (zz_m 1 rfl)) dX6_without_19 ?_
    exact zy_iret X hr hlk Z45 (zEnd hf47) dX6_without_21
  · have hf48 := zNot hf42 b46
    clear hf42
    refine lv_iload_n hx hb dX6_without_10 rfl (lv_at hl 2 rfl) ?_
    refine lv_iconst (v := 0) hx hb dX6_without_11 (by decide) ?_
    refine lv_iconst (v := 1) hx hb dX6_without_12 (by decide) ?_
    obtain ⟨r49, σ50, hc51, hf52⟩ := zBd hf48
    clear hf48
    refine zy_ci (r0 := r49) (WS1 := zg_W XL ad cA σ50) (TYS1 := zg_T XL cA) Z45 (va_runS (As := [.int a2, .int 0, .int 1]) (rest := []) X (c_X6_within l D V ad cA a2 0 1 σ40 r49 σ50 hc51 H43.size) (va_cwS 3 hts gX6_without_X6_within rfl rfl rfl zh_X6_within ⟨Nat.le_of_ble_eq_true rfl, Nat.le_of_ble_eq_true rfl⟩) (zz_pS Z45) rfl rfl hl.1 rfl (lv_room (Nat.le_of_ble_eq_true rfl)) dX6_without_13 ⟨Nat.le_of_ble_eq_true rfl, Nat.le_of_ble_eq_true rfl⟩) (fun H53 lo54 Z55 => ?_)
    clear Z45 hc51
    refine lv_if_ne (tgt := 22) hx hb dX6_without_16 (by decide) (fun b56 => ?_) (fun b56 => ?_)
    · have hf57 := zNot hf52 b56
      clear hf52
      refine lv_aload_n hx hb dX6_without_22 rfl (lv_at hl 0 rfl) ?_
      refine zy_get (v := .ref (ad 153)) X Z55 xL_ok xk_0 rfl rfl (fun w h => List.mem_cons_of_mem _ (List.mem_append_left _ (List.mem_append_left _ (List.mem_append_left _ (List.mem_append_right _ h))))) 1 rfl (zz_m 2 rfl) rfl dX6_without_23 ?_
      refine zy_get (v := .int (σ50 153 3)) X Z55 xL_ok xk_153 rfl rfl (fun w h => List.mem_cons_of_mem _ (List.mem_append_left _ (List.mem_append_left _ (List.mem_append_right _ h)))) 3 rfl (zz_m 3 rfl) rfl dX6_without_26 ?_
      refine lv_if_ne (tgt := 35) hx hb dX6_without_29 (by decide) (fun b58 => ?_) (fun b58 => ?_)
      · have hf59 := zNot hf57 b58
        clear hf57
        refine lv_iconst (v := 0) hx hb dX6_without_35 (by decide) ?_
        refine lv_istore_n (lv' := [(3, .int 0), (0, .ref (ad 0)), (1, .int a1), (2, .int a2)]) hx hb dX6_without_36 rfl hl (by decide) rfl (fun ls61 hl60 => ?_)
        clear hl
        refine lv_iconst (v := (-1)) hx hb dX6_without_37 (by decide) ?_
        refine lv_istore (lv' := [(4, .int (-1)), (3, .int 0), (0, .ref (ad 0)), (1, .int a1), (2, .int a2)]) hx hb dX6_without_38 hl60 (by decide) rfl (fun ls63 hl62 => ?_)
        clear hl60
        refine lv_iconst (v := 0) hx hb dX6_without_40 (by decide) ?_
        refine lv_istore (lv' := [(5, .int 0), (4, .int (-1)), (3, .int 0), (0, .ref (ad 0)), (1, .int a1), (2, .int a2)]) hx hb dX6_without_41 hl62 (by decide) rfl (fun ls65 hl64 => ?_)
        clear hl62
        exact b43_ zfu 0 (-1) 0 σ50 hf59 _ _ _ Z55 (lv_sub hl64 [3, 4, 5, 2, 1, 0] rfl)
      · have hf66 := zYes hf57 b58
        clear hf57
        refine lv_ldc (v := (-1000000005)) hx hb hown (hts _ (zz_m 4 rfl)) dX6_without_32 ?_
        exact zy_iret X hr hlk Z55 (zEnd hf66) dX6_without_34
    · have hf67 := zYes hf52 b56
      clear hf52
      refine lv_ldc (v := (-1000000001)) hx hb hown (hts _ (zz_m 1 rfl)) dX6_without_19 ?_
      exact zy_iret X hr hlk Z55 (zEnd hf67) dX6_without_21
