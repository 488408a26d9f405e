def B_X6_lay_128 (a1 : Int32) (a2 : Int32) (a3 : Int32) (q4v : Nat) (x5 : Int32) (σ : zg_S) : Option (Int32 × zg_S) := zlet (zg_up σ q4v 0 a2) (fun (σ1 : zg_S) => some (x5, σ1))
def f_X6_lay (a1 : Int32) (a2 : Int32) (a3 : Int32) (σ : zg_S) : Option (Int32 × zg_S) := zbd (f_X6_isSlot a1 σ) (fun (r7 : Int32) (σ8 : zg_S) => (if r7 = 0 then some ((-1000000001), σ8) else zbd (f_X6_within a2 0 3 σ8) (fun (r17 : Int32) (σ18 : zg_S) => (if r17 = 0 then some ((-1000000001), σ18) else (if zin a1 5 = true then zlet (σ18 (61 + 4 * (Int32.toNatClampNeg a1)) 0) (fun (y31 : Int32) => (if a2 = 1 then zbd (f_X6_isStall a3 σ18) (fun (r81 : Int32) (σ82 : zg_S) => (if r81 = 0 then some ((-1000000001), σ82) else (if zin a3 9 = true then zbd (f_X4_takeOver ((61 + 4 * (Int32.toNatClampNeg a1)) + 1) (154 + 2 + (Int32.toNatClampNeg a3)) σ82) (fun (r93 : Int32) (σ94 : zg_S) => B_X6_lay_128 a1 a2 a3 (61 + 4 * (Int32.toNatClampNeg a1)) y31 σ94) else none))) else (if a2 = 2 then zbd (f_X6_isSheet a3 σ18) (fun (r50 : Int32) (σ51 : zg_S) => (if r50 = 0 then some ((-1000000001), σ51) else (if zin a3 4 = true then zbd (f_X2_isMissing (53 + 2 * (Int32.toNatClampNeg a3)) σ51) (fun (r62 : Int32) (σ63 : zg_S) => (if r62 = 0 then zbd (f_X2_takeOver ((61 + 4 * (Int32.toNatClampNeg a1)) + 2) (53 + 2 * (Int32.toNatClampNeg a3)) σ63) (fun (r71 : Int32) (σ72 : zg_S) => B_X6_lay_128 a1 a2 a3 (61 + 4 * (Int32.toNatClampNeg a1)) y31 σ72) else some ((-1000000011), σ63))) else none))) else (if a2 = 3 then zlet (zg_up σ18 (61 + 4 * (Int32.toNatClampNeg a1)) 1 a3) (fun (σ43 : zg_S) => B_X6_lay_128 a1 a2 a3 (61 + 4 * (Int32.toNatClampNeg a1)) y31 σ43) else B_X6_lay_128 a1 a2 a3 (61 + 4 * (Int32.toNatClampNeg a1)) y31 σ18)))) else none)))))
set_option maxHeartbeats 4000000 in
set_option maxRecDepth 100000 in
theorem c_X6_lay (l : Launch) (D : va_G) (V : zz_V) (ad : Nat → Nat) (cA : Nat → ClassId) (a1 : Int32) (a2 : Int32) (a3 : Int32)  (σ : zg_S) (r0 : Int32) (σf : zg_S) (hf : f_X6_lay a1 a2 a3 σ = some (r0, σf)) : zM_I l yX6_lay wsX6_lay 2 81 D V XL ad cA [.ref (ad 0), .int a1, .int a2, .int a3] σ r0 σf := by
  intro sz
  refine Met.ofW (cc := cX6_lay) (maxL := 6) (ret := (some .int)) (by decide) rfl ?_
  intro p e s m args below meth c s₁ B hml hv
  obtain ⟨rfl, hC⟩ := hv
  have hx := B.exec
  have hb := B.bytes
  have hr := B.returns
  have hts := atoms_spec (ws := wsX6_lay) B.pre
  have hown : s.vm.findClass RX6 = some m.cls := findClass_of_methodNamed B.named
  have hlk := B.notSynchronized
  have X : CallFix p m c cX6_lay 6 s _ wsX6_lay RX6 := ⟨hx, hb, hml, hown, hts⟩
  have Z := zz_enter hC
  generalize va_A (zg_W XL ad cA σ) sz = A at Z ⊢
  have hl := lv_entry ([.ref (ad 0), .int a1, .int a2, .int a3]) (n := 6) (Nat.le_of_ble_eq_true rfl)
  rw [lg_entry_eq]
  generalize (lg_sl ([.ref (ad 0), .int a1, .int a2, .int a3]) ++ List.replicate (6 - (lg_sl ([.ref (ad 0), .int a1, .int a2, .int a3])).length) Slot.unset).toArray = ls at hl ⊢
  have hl : lv_has ls 6 [(0, .ref (ad 0)), (1, .int a1), (2, .int a2), (3, .int a3)] := hl
  unfold f_X6_lay at hf
  have b128_ : ∀ (q4v : Nat) (x5 : Int32) (hq4v : XL.2.1 q4v = 3) (σ : zg_S), B_X6_lay_128 a1 a2 a3 q4v x5 σ = some (r0, σf) → ∀ (H : Heap) (locs : List Loc) (ls : Array Slot), zz_S D V A s (zg_W XL ad cA σ) (zg_T XL cA) H locs → lv_has ls 6 [(2, .int a2), (4, .ref (ad q4v)), (5, .int x5)] → W p l e (headSpec wsX6_lay { frames := 2, cells := 0, slots := 0, locals := 81 }).room s m (List.toArray [.ref (ad 0), .int a1, .int a2, .int a3]) below meth c H locs 0 0 (MQ below (va_Qi (fun r (_ : Unit) => r = r0) (fun _ t => zz_B D A (zg_W XL ad cA σf) (zg_T XL cA) t) A) (List.toArray [.ref (ad 0), .int a1, .int a2, .int a3]) s 0 0 A) (F0 m 128 ls []) := by
    intro q4v x5 hq4v σ hf128_ H128_ locs128_ ls128_ Z128_ hl128_
    unfold B_X6_lay_128 at hf128_
    refine lv_aload hx hb dX6_lay_128 (lv_at hl128_ 1 rfl) ?_
    refine lv_iload_n hx hb dX6_lay_130 rfl (lv_at hl128_ 0 rfl) ?_
    obtain ⟨σ1, es2, hf3⟩ := zLet hf128_
    clear hf128_
    refine zy_put (v := a2) (σ' := σ1) X Z128_ xL_ok hq4v rfl rfl (fun w h => List.mem_cons_of_mem _ (List.mem_append_left _ (List.mem_append_left _ (List.mem_append_left _ (List.mem_append_right _ h))))) tyX3 tyX3_ok nmX3 0 rfl (zz_m 3 rfl) rfl rfl rfl (fun _ => rfl) (fun _ => rfl) es2 dX6_lay_131 (fun H4 lo5 Z6 => ?_)
    clear Z128_ es2
    refine lv_iload hx hb dX6_lay_134 (lv_at hl128_ 2 rfl) ?_
    exact zy_iret X hr hlk Z6 (zEnd hf3) dX6_lay_136
  refine lv_iload_n hx hb dX6_lay_0 rfl (lv_at hl 1 rfl) ?_
  obtain ⟨r7, σ8, hc9, hf10⟩ := zBd hf
  clear hf
  refine zy_ci (r0 := r7) (WS1 := zg_W XL ad cA σ8) (TYS1 := zg_T XL cA) Z (va_runS (As := [.int a1]) (rest := []) X (c_X6_isSlot l D V ad cA a1 σ r7 σ8 hc9 s.heap.size) (va_cwS 1 hts gX6_lay_X6_isSlot rfl rfl rfl zh_X6_isSlot ⟨Nat.le_of_ble_eq_true rfl, Nat.le_of_ble_eq_true rfl⟩) (zz_pS Z) rfl rfl hl.1 rfl (lv_room (Nat.le_of_ble_eq_true rfl)) dX6_lay_1 ⟨Nat.le_of_ble_eq_true rfl, Nat.le_of_ble_eq_true rfl⟩) (fun H11 lo12 Z13 => ?_)
  clear Z hc9
  refine lv_if_eq (tgt := 16) hx hb dX6_lay_4 (by decide) (fun b14 => ?_) (fun b14 => ?_)
  · have hf15 := zYes hf10 b14
    clear hf10
    refine lv_ldc (v := (-1000000001)) hx hb hown (hts _ (zz_m 1 rfl)) dX6_lay_16 ?_
    exact zy_iret X hr hlk Z13 (zEnd hf15) dX6_lay_18
  · have hf16 := zNot hf10 b14
    clear hf10
    refine lv_iload_n hx hb dX6_lay_7 rfl (lv_at hl 2 rfl) ?_
    refine lv_iconst (v := 0) hx hb dX6_lay_8 (by decide) ?_
    refine lv_iconst (v := 3) hx hb dX6_lay_9 (by decide) ?_
    obtain ⟨r17, σ18, hc19, hf20⟩ := zBd hf16
    clear hf16
    refine zy_ci (r0 := r17) (WS1 := zg_W XL ad cA σ18) (TYS1 := zg_T XL cA) Z13 (va_runS (As := [.int a2, .int 0, .int 3]) (rest := []) X (c_X6_within l D V ad cA a2 0 3 σ8 r17 σ18 hc19 H11.size) (va_cwS 3 hts gX6_lay_X6_within rfl rfl rfl zh_X6_within ⟨Nat.le_of_ble_eq_true rfl, Nat.le_of_ble_eq_true rfl⟩) (zz_pS Z13) rfl rfl hl.1 rfl (lv_room (Nat.le_of_ble_eq_true rfl)) dX6_lay_10 ⟨Nat.le_of_ble_eq_true rfl, Nat.le_of_ble_eq_true rfl⟩) (fun H21 lo22 Z23 => ?_)
    clear Z13 hc19
    refine lv_if_ne (tgt := 19) hx hb dX6_lay_13 (by decide) (fun b24 => ?_) (fun b24 => ?_)
    · have hf25 := zNot hf20 b24
      clear hf20
      refine lv_aload_n hx hb dX6_lay_19 rfl (lv_at hl 0 rfl) ?_
      refine zy_get (v := .ref (ad 4)) X Z23 xL_ok xk_0 rfl rfl (fun w h => List.mem_cons_of_mem _ (List.mem_append_left _ (List.mem_append_left _ (List.mem_append_left _ (List.mem_append_left _ (List.mem_append_right _ h)))))) 8 rfl (zz_m 2 rfl) rfl dX6_lay_20 ?_
      refine lv_iload_n hx hb dX6_lay_23 rfl (lv_at hl 1 rfl) ?_
      obtain ⟨⟨i26, j27⟩, hf28⟩ := zG hf25
      clear hf25
      refine zy_ald (v := (61 + 4 * (Int32.toNatClampNeg a1))) (C := RX3) X Z23 xL_ok xk_4 rfl rfl xl_4 rfl i26 rfl dX6_lay_24 ?_
      refine lv_astore (lv' := [(4, .ref (ad (61 + 4 * (Int32.toNatClampNeg a1)))), (0, .ref (ad 0)), (1, .int a1), (2, .int a2), (3, .int a3)]) hx hb dX6_lay_25 hl (by decide) rfl (fun ls30 hl29 => ?_)
      clear hl
      refine lv_aload hx hb dX6_lay_27 (lv_at hl29 0 rfl) ?_
      refine zy_get (v := .int (σ18 (61 + 4 * (Int32.toNatClampNeg a1)) 0)) X Z23 xL_ok (xO j27) rfl rfl (fun w h => List.mem_cons_of_mem _ (List.mem_append_left _ (List.mem_append_left _ (List.mem_append_left _ (List.mem_append_right _ h))))) 0 rfl (zz_m 3 rfl) rfl dX6_lay_29 ?_
      obtain ⟨y31, ey32, hf33⟩ := zLet hf28
      clear hf28
      refine zz_v (v := y31) ey32.symm ?_
      clear ey32
      refine lv_istore (lv' := [(5, .int y31), (4, .ref (ad (61 + 4 * (Int32.toNatClampNeg a1)))), (0, .ref (ad 0)), (1, .int a1), (2, .int a2), (3, .int a3)]) hx hb dX6_lay_32 hl29 (by decide) rfl (fun ls35 hl34 => ?_)
      clear hl29
      refine lv_iload_n hx hb dX6_lay_34 rfl (lv_at hl34 4 rfl) ?_
      refine lv_iconst (v := 1) hx hb dX6_lay_35 (by decide) ?_
      refine lv_icmp_ne (tgt := 70) hx hb dX6_lay_36 (by decide) (fun b36 => ?_) (fun b36 => ?_)
      · have hf37 := zNot hf33 b36
        clear hf33
        refine lv_iload_n hx hb dX6_lay_70 rfl (lv_at hl34 4 rfl) ?_
        refine lv_iconst (v := 2) hx hb dX6_lay_71 (by decide) ?_
        refine lv_icmp_ne (tgt := 117) hx hb dX6_lay_72 (by decide) (fun b38 => ?_) (fun b38 => ?_)
        · have hf39 := zNot hf37 b38
          clear hf37
          refine lv_iload_n hx hb dX6_lay_117 rfl (lv_at hl34 4 rfl) ?_
          refine lv_iconst (v := 3) hx hb dX6_lay_118 (by decide) ?_
          refine lv_icmp_ne (tgt := 128) hx hb dX6_lay_119 (by decide) (fun b40 => ?_) (fun b40 => ?_)
          · have hf41 := zNot hf39 b40
            clear hf39
            exact b128_ (61 + 4 * (Int32.toNatClampNeg a1)) y31 (xO j27) σ18 hf41 _ _ _ Z23 (lv_sub hl34 [4, 1, 0] rfl)
          · have hf42 := zYes hf39 b40
            clear hf39
            refine lv_aload hx hb dX6_lay_122 (lv_at hl34 1 rfl) ?_
            refine lv_iload_n hx hb dX6_lay_124 rfl (lv_at hl34 5 rfl) ?_
            obtain ⟨σ43, es44, hf45⟩ := zLet hf42
            clear hf42
            refine zy_put (v := a3) (σ' := σ43) X Z23 xL_ok (xO j27) rfl rfl (fun w h => List.mem_cons_of_mem _ (List.mem_append_left _ (List.mem_append_left _ (List.mem_append_left _ (List.mem_append_right _ h))))) tyX3 tyX3_ok nmX3 1 rfl (zz_m 10 rfl) rfl rfl rfl (fun _ => rfl) (fun _ => rfl) es44 dX6_lay_125 (fun H46 lo47 Z48 => ?_)
            clear Z23 es44
            exact b128_ (61 + 4 * (Int32.toNatClampNeg a1)) y31 (xO j27) σ43 hf45 _ _ _ Z48 (lv_sub hl34 [4, 1, 0] rfl)
        · have hf49 := zYes hf37 b38
          clear hf37
          refine lv_iload_n hx hb dX6_lay_75 rfl (lv_at hl34 5 rfl) ?_
          obtain ⟨r50, σ51, hc52, hf53⟩ := zBd hf49
          clear hf49
          refine zy_ci (r0 := r50) (WS1 := zg_W XL ad cA σ51) (TYS1 := zg_T XL cA) Z23 (va_runS (As := [.int a3]) (rest := []) X (c_X6_isSheet l D V ad cA a3 σ18 r50 σ51 hc52 H21.size) (va_cwS 1 hts gX6_lay_X6_isSheet rfl rfl rfl zh_X6_isSheet ⟨Nat.le_of_ble_eq_true rfl, Nat.le_of_ble_eq_true rfl⟩) (zz_pS Z23) rfl rfl hl34.1 rfl (lv_room (Nat.le_of_ble_eq_true rfl)) dX6_lay_76 ⟨Nat.le_of_ble_eq_true rfl, Nat.le_of_ble_eq_true rfl⟩) (fun H54 lo55 Z56 => ?_)
          clear Z23 hc52
          refine lv_if_ne (tgt := 85) hx hb dX6_lay_79 (by decide) (fun b57 => ?_) (fun b57 => ?_)
          · have hf58 := zNot hf53 b57
            clear hf53
            refine lv_aload_n hx hb dX6_lay_85 rfl (lv_at hl34 2 rfl) ?_
            refine zy_get (v := .ref (ad 3)) X Z56 xL_ok xk_0 rfl rfl (fun w h => List.mem_cons_of_mem _ (List.mem_append_left _ (List.mem_append_left _ (List.mem_append_left _ (List.mem_append_left _ (List.mem_append_right _ h)))))) 7 rfl (zz_m 7 rfl) rfl dX6_lay_86 ?_
            refine lv_iload_n hx hb dX6_lay_89 rfl (lv_at hl34 5 rfl) ?_
            obtain ⟨⟨i59, j60⟩, hf61⟩ := zG hf58
            clear hf58
            refine zy_ald (v := (53 + 2 * (Int32.toNatClampNeg a3))) (C := RX2) X Z56 xL_ok xk_3 rfl rfl xl_3 rfl i59 rfl dX6_lay_90 ?_
            obtain ⟨r62, σ63, hc64, hf65⟩ := zBd hf61
            clear hf61
            refine zy_ci (r0 := r62) (WS1 := zg_W XL ad cA σ63) (TYS1 := zg_T XL cA) Z56 (va_runV (As := []) (rest := []) X (c_X2_isMissing l D V ad cA (53 + 2 * (Int32.toNatClampNeg a3)) (xH j60) σ51 r62 σ63 hc64 H54.size) (cwV 0 hts gX6_lay_X2_isMissing rfl rfl rfl ⟨rfl, zh_X2_isMissing⟩ ⟨Nat.le_of_ble_eq_true rfl, Nat.le_of_ble_eq_true rfl⟩) (zy_pV (ci := 2) Z56 xL_ok (xH j60) rfl rfl) rfl rfl hl34.1 rfl (lv_room (Nat.le_of_ble_eq_true rfl)) dX6_lay_91 ⟨Nat.le_of_ble_eq_true rfl, Nat.le_of_ble_eq_true rfl⟩) (fun H66 lo67 Z68 => ?_)
            clear Z56 hc64
            refine lv_if_eq (tgt := 100) hx hb dX6_lay_94 (by decide) (fun b69 => ?_) (fun b69 => ?_)
            · have hf70 := zYes hf65 b69
              clear hf65
              refine lv_aload hx hb dX6_lay_100 (lv_at hl34 1 rfl) ?_
              refine zy_get (v := .ref (ad ((61 + 4 * (Int32.toNatClampNeg a1)) + 2))) X Z68 xL_ok (xO j27) rfl rfl (fun w h => List.mem_cons_of_mem _ (List.mem_append_left _ (List.mem_append_left _ (List.mem_append_left _ (List.mem_append_right _ h))))) 3 rfl (zz_m 9 rfl) rfl dX6_lay_102 ?_
              refine lv_aload_n hx hb dX6_lay_105 rfl (lv_at hl34 2 rfl) ?_
              refine zy_get (v := .ref (ad 3)) X Z68 xL_ok xk_0 rfl rfl (fun w h => List.mem_cons_of_mem _ (List.mem_append_left _ (List.mem_append_left _ (List.mem_append_left _ (List.mem_append_left _ (List.mem_append_right _ h)))))) 7 rfl (zz_m 7 rfl) rfl dX6_lay_106 ?_
              refine lv_iload_n hx hb dX6_lay_109 rfl (lv_at hl34 5 rfl) ?_
              refine zy_ald (v := (53 + 2 * (Int32.toNatClampNeg a3))) (C := RX2) X Z68 xL_ok xk_3 rfl rfl xl_3 rfl i59 rfl dX6_lay_110 ?_
              obtain ⟨r71, σ72, hc73, hf74⟩ := zBd hf70
              clear hf70
              refine zy_cv (WS1 := zg_W XL ad cA σ72) (TYS1 := zg_T XL cA) Z68 (va_runV (As := [.ref (ad (53 + 2 * (Int32.toNatClampNeg a3)))]) (rest := []) X (c_X2_takeOver l D V ad cA ((61 + 4 * (Int32.toNatClampNeg a1)) + 2) (53 + 2 * (Int32.toNatClampNeg a3)) (xO2 (xO j27)) (xH j60) σ63 r71 σ72 hc73 H66.size) (cwV 1 hts gX6_lay_X2_takeOver rfl rfl rfl ⟨rfl, zh_X2_takeOver⟩ ⟨Nat.le_of_ble_eq_true rfl, Nat.le_of_ble_eq_true rfl⟩) (zy_pV (ci := 2) Z68 xL_ok (xO2 (xO j27)) rfl rfl) rfl rfl hl34.1 rfl (lv_room (Nat.le_of_ble_eq_true rfl)) dX6_lay_111 ⟨Nat.le_of_ble_eq_true rfl, Nat.le_of_ble_eq_true rfl⟩) (fun H75 lo76 Z77 => ?_)
              clear Z68 hc73
              refine lv_goto (tgt := 128) hx hb dX6_lay_114 (by decide) ?_
              exact b128_ (61 + 4 * (Int32.toNatClampNeg a1)) y31 (xO j27) σ72 hf74 _ _ _ Z77 (lv_sub hl34 [4, 1, 0] rfl)
            · have hf78 := zNot hf65 b69
              clear hf65
              refine lv_ldc (v := (-1000000011)) hx hb hown (hts _ (zz_m 8 rfl)) dX6_lay_97 ?_
              exact zy_iret X hr hlk Z68 (zEnd hf78) dX6_lay_99
          · have hf79 := zYes hf53 b57
            clear hf53
            refine lv_ldc (v := (-1000000001)) hx hb hown (hts _ (zz_m 1 rfl)) dX6_lay_82 ?_
            exact zy_iret X hr hlk Z56 (zEnd hf79) dX6_lay_84
      · have hf80 := zYes hf33 b36
        clear hf33
        refine lv_aload_n hx hb dX6_lay_39 rfl (lv_at hl34 2 rfl) ?_
        refine lv_iload_n hx hb dX6_lay_40 rfl (lv_at hl34 5 rfl) ?_
        obtain ⟨r81, σ82, hc83, hf84⟩ := zBd hf80
        clear hf80
        refine zy_ci (r0 := r81) (WS1 := zg_W XL ad cA σ82) (TYS1 := zg_T XL cA) Z23 (va_runV (As := [.int a3]) (rest := []) X (c_X6_isStall l D V ad cA a3 σ18 r81 σ82 hc83 H21.size) (cwV 1 hts gX6_lay_X6_isStall rfl rfl rfl ⟨rfl, zh_X6_isStall⟩ ⟨Nat.le_of_ble_eq_true rfl, Nat.le_of_ble_eq_true rfl⟩) (zy_pV (ci := 6) Z23 xL_ok xk_0 rfl rfl) rfl rfl hl34.1 rfl (lv_room (Nat.le_of_ble_eq_true rfl)) dX6_lay_41 ⟨Nat.le_of_ble_eq_true rfl, Nat.le_of_ble_eq_true rfl⟩) (fun H85 lo86 Z87 => ?_)
        clear Z23 hc83
        refine lv_if_ne (tgt := 50) hx hb dX6_lay_44 (by decide) (fun b88 => ?_) (fun b88 => ?_)
        · have hf89 := zNot hf84 b88
          clear hf84
          refine lv_aload hx hb dX6_lay_50 (lv_at hl34 1 rfl) ?_
          refine zy_get (v := .ref (ad ((61 + 4 * (Int32.toNatClampNeg a1)) + 1))) X Z87 xL_ok (xO j27) rfl rfl (fun w h => List.mem_cons_of_mem _ (List.mem_append_left _ (List.mem_append_left _ (List.mem_append_left _ (List.mem_append_right _ h))))) 2 rfl (zz_m 4 rfl) rfl dX6_lay_52 ?_
          refine lv_aload_n hx hb dX6_lay_55 rfl (lv_at hl34 2 rfl) ?_
          refine zy_get (v := .ref (ad 153)) X Z87 xL_ok xk_0 rfl rfl (fun w h => List.mem_cons_of_mem _ (List.mem_append_left _ (List.mem_append_left _ (List.mem_append_left _ (List.mem_append_left _ (List.mem_append_right _ h)))))) 1 rfl (zz_m 5 rfl) rfl dX6_lay_56 ?_
          refine zy_get (v := .ref (ad 154)) X Z87 xL_ok xk_153 rfl rfl (fun w h => List.mem_cons_of_mem _ (List.mem_append_left _ (List.mem_append_left _ (List.mem_append_right _ h)))) 1 rfl (zz_m 6 rfl) rfl dX6_lay_59 ?_
          refine lv_iload_n hx hb dX6_lay_62 rfl (lv_at hl34 5 rfl) ?_
          obtain ⟨⟨i90, j91⟩, hf92⟩ := zG hf89
          clear hf89
          refine zy_ald (v := (154 + 2 + (Int32.toNatClampNeg a3))) (C := RX4) X Z87 xL_ok xk_154 rfl rfl xl_154 rfl i90 rfl dX6_lay_63 ?_
          obtain ⟨r93, σ94, hc95, hf96⟩ := zBd hf92
          clear hf92
          refine zy_cv (WS1 := zg_W XL ad cA σ94) (TYS1 := zg_T XL cA) Z87 (va_runV (As := [.ref (ad (154 + 2 + (Int32.toNatClampNeg a3)))]) (rest := []) X (c_X4_takeOver l D V ad cA ((61 + 4 * (Int32.toNatClampNeg a1)) + 1) (154 + 2 + (Int32.toNatClampNeg a3)) (xO1 (xO j27)) (xS xk_154 j91) σ82 r93 σ94 hc95 H85.size) (cwV 1 hts gX6_lay_X4_takeOver rfl rfl rfl ⟨rfl, zh_X4_takeOver⟩ ⟨Nat.le_of_ble_eq_true rfl, Nat.le_of_ble_eq_true rfl⟩) (zy_pV (ci := 4) Z87 xL_ok (xO1 (xO j27)) rfl rfl) rfl rfl hl34.1 rfl (lv_room (Nat.le_of_ble_eq_true rfl)) dX6_lay_64 ⟨Nat.le_of_ble_eq_true rfl, Nat.le_of_ble_eq_true rfl⟩) (fun H97 lo98 Z99 => ?_)
          clear Z87 hc95
          refine lv_goto (tgt := 128) hx hb dX6_lay_67 (by decide) ?_
          exact b128_ (61 + 4 * (Int32.toNatClampNeg a1)) y31 (xO j27) σ94 hf96 _ _ _ Z99 (lv_sub hl34 [4, 1, 0] rfl)
        · have hf100 := zYes hf84 b88
          clear hf84
          refine lv_ldc (v := (-1000000001)) hx hb hown (hts _ (zz_m 1 rfl)) dX6_lay_47 ?_
          exact zy_iret X hr hlk Z87 (zEnd hf100) dX6_lay_49
    · have hf101 := zYes hf20 b24
      clear hf20
      refine lv_ldc (v := (-1000000001)) hx hb hown (hts _ (zz_m 1 rfl)) dX6_lay_16 ?_
      exact zy_iret X hr hlk Z23 (zEnd hf101) dX6_lay_18
def B_X6_mark_92 (a1 : Int32) (a2 : Int32) (a3 : Int32) (q4v : Nat) (σ : zg_S) : Option (Int32 × zg_S) := (if zin a2 24 = true then zlet (zg_up σ (q4v + 1) (Int32.toNatClampNeg a2) a3) (fun (σ4 : zg_S) => some (1, σ4)) else none)
def f_X6_mark (a1 : Int32) (a2 : Int32) (a3 : Int32) (σ : zg_S) : Option (Int32 × zg_S) := zbd (f_X6_isSheet a1 σ) (fun (r10 : Int32) (σ11 : zg_S) => (if r10 = 0 then some ((-1000000001), σ11) else (if zin a1 4 = true then zbd (f_X2_isMissing (53 + 2 * (Int32.toNatClampNeg a1)) σ11) (fun (r24 : Int32) (σ25 : zg_S) => (if r24 = 0 then zbd (f_X2_hasPlace (53 + 2 * (Int32.toNatClampNeg a1)) a2 σ25) (fun (r33 : Int32) (σ34 : zg_S) => (if r33 = 0 then some ((-1000000013), σ34) else (if (σ34 (53 + 2 * (Int32.toNatClampNeg a1)) 0) = 0 then (if a3 = (-1000000005) then some ((-1000000012), σ34) else (if zin a2 24 = true then zlet (zg_up σ34 ((53 + 2 * (Int32.toNatClampNeg a1)) + 1) (Int32.toNatClampNeg a2) ((Int32.toInt16 a3).toInt32)) (fun (σ63 : zg_S) => some (1, σ63)) else none)) else (if a3 = (-1000000005) then B_X6_mark_92 a1 a2 a3 (53 + 2 * (Int32.toNatClampNeg a1)) σ34 else zbd (f_X6_within a3 (-99999) 99999 σ34) (fun (r47 : Int32) (σ48 : zg_S) => (if r47 = 0 then some ((-1000000001), σ48) else B_X6_mark_92 a1 a2 a3 (53 + 2 * (Int32.toNatClampNeg a1)) σ48)))))) else some ((-1000000011), σ25))) else none)))
set_option maxHeartbeats 4000000 in
set_option maxRecDepth 100000 in
theorem c_X6_mark (l : Launch) (D : va_G) (V : zz_V) (ad : Nat → Nat) (cA : Nat → ClassId) (a1 : Int32) (a2 : Int32) (a3 : Int32)  (σ : zg_S) (r0 : Int32) (σf : zg_S) (hf : f_X6_mark a1 a2 a3 σ = some (r0, σf)) : zM_I l yX6_mark wsX6_mark 2 43 D V XL ad cA [.ref (ad 0), .int a1, .int a2, .int a3] σ r0 σf := by
  intro sz
  refine Met.ofW (cc := cX6_mark) (maxL := 5) (ret := (some .int)) (by decide) rfl ?_
  intro p e s m args below meth c s₁ B hml hv
  obtain ⟨rfl, hC⟩ := hv
  have hx := B.exec
  have hb := B.bytes
  have hr := B.returns
  have hts := atoms_spec (ws := wsX6_mark) B.pre
  have hown : s.vm.findClass RX6 = some m.cls := findClass_of_methodNamed B.named
  have hlk := B.notSynchronized
  have X : CallFix p m c cX6_mark 5 s _ wsX6_mark RX6 := ⟨hx, hb, hml, hown, hts⟩
  have Z := zz_enter hC
  generalize va_A (zg_W XL ad cA σ) sz = A at Z ⊢
  have hl := lv_entry ([.ref (ad 0), .int a1, .int a2, .int a3]) (n := 5) (Nat.le_of_ble_eq_true rfl)
  rw [lg_entry_eq]
  generalize (lg_sl ([.ref (ad 0), .int a1, .int a2, .int a3]) ++ List.replicate (5 - (lg_sl ([.ref (ad 0), .int a1, .int a2, .int a3])).length) Slot.unset).toArray = ls at hl ⊢
  have hl : lv_has ls 5 [(0, .ref (ad 0)), (1, .int a1), (2, .int a2), (3, .int a3)] := hl
  unfold f_X6_mark at hf
  have b92_ : ∀ (q4v : Nat) (hq4v : XL.2.1 q4v = 2) (σ : zg_S), B_X6_mark_92 a1 a2 a3 q4v σ = some (r0, σf) → ∀ (H : Heap) (locs : List Loc) (ls : Array Slot), zz_S D V A s (zg_W XL ad cA σ) (zg_T XL cA) H locs → lv_has ls 5 [(2, .int a2), (3, .int a3), (4, .ref (ad q4v))] → W p l e (headSpec wsX6_mark { frames := 2, cells := 0, slots := 0, locals := 43 }).room s m (List.toArray [.ref (ad 0), .int a1, .int a2, .int a3]) below meth c H locs 0 0 (MQ below (va_Qi (fun r (_ : Unit) => r = r0) (fun _ t => zz_B D A (zg_W XL ad cA σf) (zg_T XL cA) t) A) (List.toArray [.ref (ad 0), .int a1, .int a2, .int a3]) s 0 0 A) (F0 m 92 ls []) := by
    intro q4v hq4v σ hf92_ H92_ locs92_ ls92_ Z92_ hl92_
    unfold B_X6_mark_92 at hf92_
    refine lv_aload hx hb dX6_mark_92 (lv_at hl92_ 2 rfl) ?_
    refine zy_get (v := .ref (ad (q4v + 1))) X Z92_ xL_ok hq4v rfl rfl (fun w h => List.mem_cons_of_mem _ (List.mem_append_right _ h)) 2 rfl (zz_m 8 rfl) rfl dX6_mark_94 ?_
    refine lv_iload_n hx hb dX6_mark_97 rfl (lv_at hl92_ 0 rfl) ?_
    refine lv_iload_n hx hb dX6_mark_98 rfl (lv_at hl92_ 1 rfl) ?_
    obtain ⟨⟨i1, j2⟩, hf3⟩ := zG hf92_
    clear hf92_
    obtain ⟨σ4, es5, hf6⟩ := zLet hf3
    clear hf3
    refine zy_ist (σ' := σ4) X Z92_ xL_ok (xH1 hq4v) (xH1l hq4v) i1 es5 dX6_mark_99 (fun H7 lo8 Z9 => ?_)
    clear Z92_ es5
    refine lv_iconst (v := 1) hx hb dX6_mark_100 (by decide) ?_
    exact zy_iret X hr hlk Z9 (zEnd hf6) dX6_mark_101
  refine lv_iload_n hx hb dX6_mark_0 rfl (lv_at hl 1 rfl) ?_
  obtain ⟨r10, σ11, hc12, hf13⟩ := zBd hf
  clear hf
  refine zy_ci (r0 := r10) (WS1 := zg_W XL ad cA σ11) (TYS1 := zg_T XL cA) Z (va_runS (As := [.int a1]) (rest := []) X (c_X6_isSheet l D V ad cA a1 σ r10 σ11 hc12 s.heap.size) (va_cwS 1 hts gX6_mark_X6_isSheet rfl rfl rfl zh_X6_isSheet ⟨Nat.le_of_ble_eq_true rfl, Nat.le_of_ble_eq_true rfl⟩) (zz_pS Z) rfl rfl hl.1 rfl (lv_room (Nat.le_of_ble_eq_true rfl)) dX6_mark_1 ⟨Nat.le_of_ble_eq_true rfl, Nat.le_of_ble_eq_true rfl⟩) (fun H14 lo15 Z16 => ?_)
  clear Z hc12
  refine lv_if_ne (tgt := 10) hx hb dX6_mark_4 (by decide) (fun b17 => ?_) (fun b17 => ?_)
  · have hf18 := zNot hf13 b17
    clear hf13
    refine lv_aload_n hx hb dX6_mark_10 rfl (lv_at hl 0 rfl) ?_
    refine zy_get (v := .ref (ad 3)) X Z16 xL_ok xk_0 rfl rfl (fun w h => List.mem_cons_of_mem _ (List.mem_append_left _ (List.mem_append_right _ h))) 7 rfl (zz_m 2 rfl) rfl dX6_mark_11 ?_
    refine lv_iload_n hx hb dX6_mark_14 rfl (lv_at hl 1 rfl) ?_
    obtain ⟨⟨i19, j20⟩, hf21⟩ := zG hf18
    clear hf18
    refine zy_ald (v := (53 + 2 * (Int32.toNatClampNeg a1))) (C := RX2) X Z16 xL_ok xk_3 rfl rfl xl_3 rfl i19 rfl dX6_mark_15 ?_
    refine lv_astore (lv' := [(4, .ref (ad (53 + 2 * (Int32.toNatClampNeg a1)))), (0, .ref (ad 0)), (1, .int a1), (2, .int a2), (3, .int a3)]) hx hb dX6_mark_16 hl (by decide) rfl (fun ls23 hl22 => ?_)
    clear hl
    refine lv_aload hx hb dX6_mark_18 (lv_at hl22 0 rfl) ?_
    obtain ⟨r24, σ25, hc26, hf27⟩ := zBd hf21
    clear hf21
    refine zy_ci (r0 := r24) (WS1 := zg_W XL ad cA σ25) (TYS1 := zg_T XL cA) Z16 (va_runV (As := []) (rest := []) X (c_X2_isMissing l D V ad cA (53 + 2 * (Int32.toNatClampNeg a1)) (xH j20) σ11 r24 σ25 hc26 H14.size) (cwV 0 hts gX6_mark_X2_isMissing rfl rfl rfl ⟨rfl, zh_X2_isMissing⟩ ⟨Nat.le_of_ble_eq_true rfl, Nat.le_of_ble_eq_true rfl⟩) (zy_pV (ci := 2) Z16 xL_ok (xH j20) rfl rfl) rfl rfl hl22.1 rfl (lv_room (Nat.le_of_ble_eq_true rfl)) dX6_mark_20 ⟨Nat.le_of_ble_eq_true rfl, Nat.le_of_ble_eq_true rfl⟩) (fun H28 lo29 Z30 => ?_)
    clear Z16 hc26
    refine lv_if_eq (tgt := 29) hx hb dX6_mark_23 (by decide) (fun b31 => ?_) (fun b31 => ?_)
    · have hf32 := zYes hf27 b31
      clear hf27
      refine lv_aload hx hb dX6_mark_29 (lv_at hl22 0 rfl) ?_
      refine lv_iload_n hx hb dX6_mark_31 rfl (lv_at hl22 3 rfl) ?_
      obtain ⟨r33, σ34, hc35, hf36⟩ := zBd hf32
      clear hf32
      refine zy_ci (r0 := r33) (WS1 := zg_W XL ad cA σ34) (TYS1 := zg_T XL cA) Z30 (va_runV (As := [.int a2]) (rest := []) X (c_X2_hasPlace l D V ad cA (53 + 2 * (Int32.toNatClampNeg a1)) a2 (xH j20) σ25 r33 σ34 hc35 H28.size) (cwV 1 hts gX6_mark_X2_hasPlace rfl rfl rfl ⟨rfl, zh_X2_hasPlace⟩ ⟨Nat.le_of_ble_eq_true rfl, Nat.le_of_ble_eq_true rfl⟩) (zy_pV (ci := 2) Z30 xL_ok (xH j20) rfl rfl) rfl rfl hl22.1 rfl (lv_room (Nat.le_of_ble_eq_true rfl)) dX6_mark_32 ⟨Nat.le_of_ble_eq_true rfl, Nat.le_of_ble_eq_true rfl⟩) (fun H37 lo38 Z39 => ?_)
      clear Z30 hc35
      refine lv_if_ne (tgt := 42) hx hb dX6_mark_35 (by decide) (fun b40 => ?_) (fun b40 => ?_)
      · have hf41 := zNot hf36 b40
        clear hf36
        refine lv_aload hx hb dX6_mark_42 (lv_at hl22 0 rfl) ?_
        refine zy_get (v := .int (σ34 (53 + 2 * (Int32.toNatClampNeg a1)) 0)) X Z39 xL_ok (xH j20) rfl rfl (fun w h => List.mem_cons_of_mem _ (List.mem_append_right _ h)) 0 rfl (zz_m 5 rfl) rfl dX6_mark_44 ?_
        refine lv_if_ne (tgt := 70) hx hb dX6_mark_47 (by decide) (fun b42 => ?_) (fun b42 => ?_)
        · have hf43 := zNot hf41 b42
          clear hf41
          refine lv_iload_n hx hb dX6_mark_70 rfl (lv_at hl22 4 rfl) ?_
          refine lv_ldc (v := (-1000000005)) hx hb hown (hts _ (zz_m 6 rfl)) dX6_mark_71 ?_
          refine lv_icmp_eq (tgt := 92) hx hb dX6_mark_73 (by decide) (fun b44 => ?_) (fun b44 => ?_)
          · have hf45 := zYes hf43 b44
            clear hf43
            exact b92_ (53 + 2 * (Int32.toNatClampNeg a1)) (xH j20) σ34 hf45 _ _ _ Z39 (lv_sub hl22 [3, 4, 0] rfl)
          · have hf46 := zNot hf43 b44
            clear hf43
            refine lv_iload_n hx hb dX6_mark_76 rfl (lv_at hl22 4 rfl) ?_
            refine lv_ldcw (v := (-99999)) hx hb hown (hts _ (zz_m 9 rfl)) dX6_mark_77 ?_
            refine lv_ldcw (v := 99999) hx hb hown (hts _ (zz_m 10 rfl)) dX6_mark_80 ?_
            obtain ⟨r47, σ48, hc49, hf50⟩ := zBd hf46
            clear hf46
            refine zy_ci (r0 := r47) (WS1 := zg_W XL ad cA σ48) (TYS1 := zg_T XL cA) Z39 (va_runS (As := [.int a3, .int (-99999), .int 99999]) (rest := []) X (c_X6_within l D V ad cA a3 (-99999) 99999 σ34 r47 σ48 hc49 H37.size) (va_cwS 3 hts gX6_mark_X6_within rfl rfl rfl zh_X6_within ⟨Nat.le_of_ble_eq_true rfl, Nat.le_of_ble_eq_true rfl⟩) (zz_pS Z39) rfl rfl hl22.1 rfl (lv_room (Nat.le_of_ble_eq_true rfl)) dX6_mark_83 ⟨Nat.le_of_ble_eq_true rfl, Nat.le_of_ble_eq_true rfl⟩) (fun H51 lo52 Z53 => ?_)
            clear Z39 hc49
            refine lv_if_ne (tgt := 92) hx hb dX6_mark_86 (by decide) (fun b54 => ?_) (fun b54 => ?_)
            · have hf55 := zNot hf50 b54
              clear hf50
              exact b92_ (53 + 2 * (Int32.toNatClampNeg a1)) (xH j20) σ48 hf55 _ _ _ Z53 (lv_sub hl22 [3, 4, 0] rfl)
            · have hf56 := zYes hf50 b54
              clear hf50
              refine lv_ldc (v := (-1000000001)) hx hb hown (hts _ (zz_m 1 rfl)) dX6_mark_89 ?_
              exact zy_iret X hr hlk Z53 (zEnd hf56) dX6_mark_91
        · have hf57 := zYes hf41 b42
          clear hf41
          refine lv_iload_n hx hb dX6_mark_50 rfl (lv_at hl22 4 rfl) ?_
          refine lv_ldc (v := (-1000000005)) hx hb hown (hts _ (zz_m 6 rfl)) dX6_mark_51 ?_
          refine lv_icmp_ne (tgt := 59) hx hb dX6_mark_53 (by decide) (fun b58 => ?_) (fun b58 => ?_)
          · have hf59 := zNot hf57 b58
            clear hf57
            refine lv_aload hx hb dX6_mark_59 (lv_at hl22 0 rfl) ?_
            refine zy_get (v := .ref (ad ((53 + 2 * (Int32.toNatClampNeg a1)) + 1))) X Z39 xL_ok (xH j20) rfl rfl (fun w h => List.mem_cons_of_mem _ (List.mem_append_right _ h)) 2 rfl (zz_m 8 rfl) rfl dX6_mark_61 ?_
            refine lv_iload_n hx hb dX6_mark_64 rfl (lv_at hl22 3 rfl) ?_
            refine lv_iload_n hx hb dX6_mark_65 rfl (lv_at hl22 4 rfl) ?_
            refine lv_i2s (v := (Int32.toInt16 a3).toInt32) hx hb dX6_mark_66 rfl ?_
            obtain ⟨⟨i60, j61⟩, hf62⟩ := zG hf59
            clear hf59
            obtain ⟨σ63, es64, hf65⟩ := zLet hf62
            clear hf62
            refine zy_ist (σ' := σ63) X Z39 xL_ok (xH1 (xH j20)) (xH1l (xH j20)) i60 es64 dX6_mark_67 (fun H66 lo67 Z68 => ?_)
            clear Z39 es64
            refine lv_iconst (v := 1) hx hb dX6_mark_68 (by decide) ?_
            exact zy_iret X hr hlk Z68 (zEnd hf65) dX6_mark_69
          · have hf69 := zYes hf57 b58
            clear hf57
            refine lv_ldc (v := (-1000000012)) hx hb hown (hts _ (zz_m 7 rfl)) dX6_mark_56 ?_
            exact zy_iret X hr hlk Z39 (zEnd hf69) dX6_mark_58
      · have hf70 := zYes hf36 b40
        clear hf36
        refine lv_ldcw (v := (-1000000013)) hx hb hown (hts _ (zz_m 4 rfl)) dX6_mark_38 ?_
        exact zy_iret X hr hlk Z39 (zEnd hf70) dX6_mark_41
    · have hf71 := zNot hf27 b31
      clear hf27
      refine lv_ldc (v := (-1000000011)) hx hb hown (hts _ (zz_m 3 rfl)) dX6_mark_26 ?_
      exact zy_iret X hr hlk Z30 (zEnd hf71) dX6_mark_28
  · have hf72 := zYes hf13 b17
    clear hf13
    refine lv_ldc (v := (-1000000001)) hx hb hown (hts _ (zz_m 1 rfl)) dX6_mark_7 ?_
    exact zy_iret X hr hlk Z16 (zEnd hf72) dX6_mark_9
def B_X6_pour_110 (a1 : Int32) (rec32_ : Nat → Int32 → Int32 → zg_S → Option (Int32 × zg_S)) (q2v : Nat) (x3 : Int32) (x4 : Int32) (σ : zg_S) : Option (Int32 × zg_S) := rec32_ q2v x3 (x4 + 1) σ
def B_X6_pour_93 (a1 : Int32) (rec32_ : Nat → Int32 → Int32 → zg_S → Option (Int32 × zg_S)) (q2v : Nat) (x4 : Int32) (x5 : Int32) (y0 : Int32) (y1 : Int32) (σ : zg_S) : Option (Int32 × zg_S) := (if zin x4 9 = true then zlet (zg_up σ (154 + 2 + (Int32.toNatClampNeg x4)) 2 x5) (fun (σ8 : zg_S) => B_X6_pour_110 a1 rec32_ q2v (y1 + y0) x4 σ8) else none)
def B_X6_pour_32 (a1 : Int32) (rec32_ : Nat → Int32 → Int32 → zg_S → Option (Int32 × zg_S)) (q2v : Nat) (x3 : Int32) (x4 : Int32) (σ : zg_S) : Option (Int32 × zg_S) := (if (σ 153 3) ≤ x4 then some (x3, σ) else zbd (f_X2_hasNumber q2v x4 σ) (fun (r17 : Int32) (σ18 : zg_S) => (if r17 = 0 then B_X6_pour_110 a1 rec32_ q2v x3 x4 σ18 else (if zin x4 24 = true then zbd (f_X6_held (σ18 (q2v + 1) (Int32.toNatClampNeg x4)) 0 999 σ18) (fun (r30 : Int32) (σ31 : zg_S) => (if zin x4 9 = true then (if r30 = (σ31 (154 + 2 + (Int32.toNatClampNeg x4)) 2) then B_X6_pour_93 a1 rec32_ q2v x4 r30 0 x3 σ31 else B_X6_pour_93 a1 rec32_ q2v x4 r30 1 x3 σ31) else none)) else none))))
def L_X6_pour_32 (a1 : Int32) : Nat → Nat → Int32 → Int32 → zg_S → Option (Int32 × zg_S) := zfix (fun _ _ _ _ => none) (B_X6_pour_32 a1)
def f_X6_pour (a1 : Int32) (σ : zg_S) : Option (Int32 × zg_S) := zbd (f_X6_isSheet a1 σ) (fun (r45 : Int32) (σ46 : zg_S) => (if r45 = 0 then some ((-1000000001), σ46) else (if zin a1 4 = true then zbd (f_X2_isMissing (53 + 2 * (Int32.toNatClampNeg a1)) σ46) (fun (r59 : Int32) (σ60 : zg_S) => (if r59 = 0 then L_X6_pour_32 a1 zfu (53 + 2 * (Int32.toNatClampNeg a1)) 0 0 σ60 else some ((-1000000011), σ60))) else none)))
set_option maxHeartbeats 4000000 in
set_option maxRecDepth 100000 in
theorem c_X6_pour (l : Launch) (D : va_G) (V : zz_V) (ad : Nat → Nat) (cA : Nat → ClassId) (a1 : Int32)  (σ : zg_S) (r0 : Int32) (σf : zg_S) (hf : f_X6_pour a1 σ = some (r0, σf)) : zM_I l yX6_pour wsX6_pour 3 64 D V XL ad cA [.ref (ad 0), .int a1] σ r0 σf := by
  intro sz
  refine Met.ofW (cc := cX6_pour) (maxL := 6) (ret := (some .int)) (by decide) rfl ?_
  intro p e s m args below meth c s₁ B hml hv
  obtain ⟨rfl, hC⟩ := hv
  have hx := B.exec
  have hb := B.bytes
  have hr := B.returns
  have hts := atoms_spec (ws := wsX6_pour) B.pre
  have hown : s.vm.findClass RX6 = some m.cls := findClass_of_methodNamed B.named
  have hlk := B.notSynchronized
  have X : CallFix p m c cX6_pour 6 s _ wsX6_pour RX6 := ⟨hx, hb, hml, hown, hts⟩
  have Z := zz_enter hC
  generalize va_A (zg_W XL ad cA σ) sz = A at Z ⊢
  have hl := lv_entry ([.ref (ad 0), .int a1]) (n := 6) (Nat.le_of_ble_eq_true rfl)
  rw [lg_entry_eq]
  generalize (lg_sl ([.ref (ad 0), .int a1]) ++ List.replicate (6 - (lg_sl ([.ref (ad 0), .int a1])).length) Slot.unset).toArray = ls at hl ⊢
  have hl : lv_has ls 6 [(0, .ref (ad 0)), (1, .int a1)] := hl
  unfold f_X6_pour at hf
  have b32_ : ∀ (k32_ : Nat) (q2v : Nat) (x3 : Int32) (x4 : Int32) (hq2v : XL.2.1 q2v = 2) (σ : zg_S), L_X6_pour_32 a1 k32_ q2v x3 x4 σ = some (r0, σf) → ∀ (H : Heap) (locs : List Loc) (ls : Array Slot), zz_S D V A s (zg_W XL ad cA σ) (zg_T XL cA) H locs → lv_has ls 6 [(0, .ref (ad 0)), (2, .ref (ad q2v)), (3, .int x3), (4, .int x4)] → W p l e (headSpec wsX6_pour { frames := 3, cells := 0, slots := 0, locals := 64 }).room s m (List.toArray [.ref (ad 0), .int a1]) below meth c H locs 0 0 (MQ below (va_Qi (fun r (_ : Unit) => r = r0) (fun _ t => zz_B D A (zg_W XL ad cA σf) (zg_T XL cA) t) A) (List.toArray [.ref (ad 0), .int a1]) s 0 0 A) (F0 m 32 ls []) := by
    intro k32_
    induction k32_ with
    | zero =>
        intro q2v x3 x4 hq2v σ hf32_ H32_ locs32_ ls32_ Z32_ hl32_
        exact zNone hf32_
    | succ k32_ ih32_ =>
        intro q2v x3 x4 hq2v σ hf32_ H32_ locs32_ ls32_ Z32_ hl32_
        replace hf32_ : B_X6_pour_32 a1 (L_X6_pour_32 a1 k32_) q2v x3 x4 σ = some (r0, σf) := hf32_
        unfold B_X6_pour_32 at hf32_
        have b110_ : ∀ (q2v : Nat) (x3 : Int32) (x4 : Int32) (hq2v : XL.2.1 q2v = 2) (σ : zg_S), B_X6_pour_110 a1 (L_X6_pour_32 a1 k32_) q2v x3 x4 σ = some (r0, σf) → ∀ (H : Heap) (locs : List Loc) (ls : Array Slot), zz_S D V A s (zg_W XL ad cA σ) (zg_T XL cA) H locs → lv_has ls 6 [(0, .ref (ad 0)), (2, .ref (ad q2v)), (3, .int x3), (4, .int x4)] → W p l e (headSpec wsX6_pour { frames := 3, cells := 0, slots := 0, locals := 64 }).room s m (List.toArray [.ref (ad 0), .int a1]) below meth c H locs 0 0 (MQ below (va_Qi (fun r (_ : Unit) => r = r0) (fun _ t => zz_B D A (zg_W XL ad cA σf) (zg_T XL cA) t) A) (List.toArray [.ref (ad 0), .int a1]) s 0 0 A) (F0 m 110 ls []) := by
          intro q2v x3 x4 hq2v σ hf110_ H110_ locs110_ ls110_ Z110_ hl110_
          unfold B_X6_pour_110 at hf110_
          refine lv_iinc (v := (x4 + 1)) (lv' := [(4, .int (x4 + 1)), (0, .ref (ad 0)), (2, .ref (ad q2v)), (3, .int x3)]) hx hb dX6_pour_110 hl110_ (k := 3) rfl rfl (by decide) rfl (fun ls2 hl1 => ?_)
          clear hl110_
          refine lv_goto (tgt := 32) hx hb dX6_pour_113 (by decide) ?_
          exact ih32_ q2v x3 (x4 + 1) hq2v σ hf110_ _ _ _ Z110_ (lv_sub hl1 [1, 2, 3, 0] rfl)
        have b93_ : ∀ (q2v : Nat) (x4 : Int32) (x5 : Int32) (y0 : Int32) (y1 : Int32) (hq2v : XL.2.1 q2v = 2) (σ : zg_S), B_X6_pour_93 a1 (L_X6_pour_32 a1 k32_) q2v x4 x5 y0 y1 σ = some (r0, σf) → ∀ (H : Heap) (locs : List Loc) (ls : Array Slot), zz_S D V A s (zg_W XL ad cA σ) (zg_T XL cA) H locs → lv_has ls 6 [(0, .ref (ad 0)), (2, .ref (ad q2v)), (4, .int x4), (5, .int x5)] → W p l e (headSpec wsX6_pour { frames := 3, cells := 0, slots := 0, locals := 64 }).room s m (List.toArray [.ref (ad 0), .int a1]) below meth c H locs 0 0 (MQ below (va_Qi (fun r (_ : Unit) => r = r0) (fun _ t => zz_B D A (zg_W XL ad cA σf) (zg_T XL cA) t) A) (List.toArray [.ref (ad 0), .int a1]) s 0 0 A) (F0 m 93 ls [.int y0, .int y1]) := by
          intro q2v x4 x5 y0 y1 hq2v σ hf93_ H93_ locs93_ ls93_ Z93_ hl93_
          unfold B_X6_pour_93 at hf93_
          refine lv_iadd hx hb dX6_pour_93 ?_
          refine lv_istore_n (lv' := [(3, .int (y1 + y0)), (0, .ref (ad 0)), (2, .ref (ad q2v)), (4, .int x4), (5, .int x5)]) hx hb dX6_pour_94 rfl hl93_ (by decide) rfl (fun ls4 hl3 => ?_)
          clear hl93_
          refine lv_aload_n hx hb dX6_pour_95 rfl (lv_at hl3 1 rfl) ?_
          refine zy_get (v := .ref (ad 153)) X Z93_ xL_ok xk_0 rfl rfl (fun w h => List.mem_cons_of_mem _ (List.mem_append_left _ (List.mem_append_left _ (List.mem_append_left _ (List.mem_append_right _ h))))) 1 rfl (zz_m 4 rfl) rfl dX6_pour_96 ?_
          refine zy_get (v := .ref (ad 154)) X Z93_ xL_ok xk_153 rfl rfl (fun w h => List.mem_cons_of_mem _ (List.mem_append_left _ (List.mem_append_left _ (List.mem_append_right _ h)))) 1 rfl (zz_m 7 rfl) rfl dX6_pour_99 ?_
          refine lv_iload hx hb dX6_pour_102 (lv_at hl3 3 rfl) ?_
          obtain ⟨⟨i5, j6⟩, hf7⟩ := zG hf93_
          clear hf93_
          refine zy_ald (v := (154 + 2 + (Int32.toNatClampNeg x4))) (C := RX4) X Z93_ xL_ok xk_154 rfl rfl xl_154 rfl i5 rfl dX6_pour_104 ?_
          refine lv_iload hx hb dX6_pour_105 (lv_at hl3 4 rfl) ?_
          obtain ⟨σ8, es9, hf10⟩ := zLet hf7
          clear hf7
          refine zy_put (v := x5) (σ' := σ8) X Z93_ xL_ok (xS xk_154 j6) rfl rfl (fun w h => List.mem_cons_of_mem _ (List.mem_append_right _ h)) tyX4 tyX4_ok nmX4 2 rfl (zz_m 8 rfl) rfl rfl rfl (fun _ => rfl) (fun _ => rfl) es9 dX6_pour_107 (fun H11 lo12 Z13 => ?_)
          clear Z93_ es9
          exact b110_ q2v (y1 + y0) x4 hq2v σ8 hf10 _ _ _ Z13 (lv_sub hl3 [1, 2, 0, 3] rfl)
        refine lv_iload hx hb dX6_pour_32 (lv_at hl32_ 3 rfl) ?_
        refine lv_aload_n hx hb dX6_pour_34 rfl (lv_at hl32_ 0 rfl) ?_
        refine zy_get (v := .ref (ad 153)) X Z32_ xL_ok xk_0 rfl rfl (fun w h => List.mem_cons_of_mem _ (List.mem_append_left _ (List.mem_append_left _ (List.mem_append_left _ (List.mem_append_right _ h))))) 1 rfl (zz_m 4 rfl) rfl dX6_pour_35 ?_
        refine zy_get (v := .int (σ 153 3)) X Z32_ xL_ok xk_153 rfl rfl (fun w h => List.mem_cons_of_mem _ (List.mem_append_left _ (List.mem_append_left _ (List.mem_append_right _ h)))) 3 rfl (zz_m 5 rfl) rfl dX6_pour_38 ?_
        refine lv_icmp_ge (tgt := 116) hx hb dX6_pour_41 (by decide) (fun b14 => ?_) (fun b14 => ?_)
        · have hf15 := zYes hf32_ b14
          clear hf32_
          refine lv_iload_n hx hb dX6_pour_116 rfl (lv_at hl32_ 2 rfl) ?_
          exact zy_iret X hr hlk Z32_ (zEnd hf15) dX6_pour_117
        · have hf16 := zNot hf32_ b14
          clear hf32_
          refine lv_aload_n hx hb dX6_pour_44 rfl (lv_at hl32_ 1 rfl) ?_
          refine lv_iload hx hb dX6_pour_45 (lv_at hl32_ 3 rfl) ?_
          obtain ⟨r17, σ18, hc19, hf20⟩ := zBd hf16
          clear hf16
          refine zy_ci (r0 := r17) (WS1 := zg_W XL ad cA σ18) (TYS1 := zg_T XL cA) Z32_ (va_runV (As := [.int x4]) (rest := []) X (c_X2_hasNumber l D V ad cA q2v x4 hq2v σ r17 σ18 hc19 H32_.size) (cwV 1 hts gX6_pour_X2_hasNumber rfl rfl rfl ⟨rfl, zh_X2_hasNumber⟩ ⟨Nat.le_of_ble_eq_true rfl, Nat.le_of_ble_eq_true rfl⟩) (zy_pV (ci := 2) Z32_ xL_ok hq2v rfl rfl) rfl rfl hl32_.1 rfl (lv_room (Nat.le_of_ble_eq_true rfl)) dX6_pour_47 ⟨Nat.le_of_ble_eq_true rfl, Nat.le_of_ble_eq_true rfl⟩) (fun H21 lo22 Z23 => ?_)
          clear Z32_ hc19
          refine lv_if_eq (tgt := 110) hx hb dX6_pour_50 (by decide) (fun b24 => ?_) (fun b24 => ?_)
          · have hf25 := zYes hf20 b24
            clear hf20
            exact b110_ q2v x3 x4 hq2v σ18 hf25 _ _ _ Z23 (lv_sub hl32_ [0, 1, 2, 3] rfl)
          · have hf26 := zNot hf20 b24
            clear hf20
            refine lv_aload_n hx hb dX6_pour_53 rfl (lv_at hl32_ 1 rfl) ?_
            refine zy_get (v := .ref (ad (q2v + 1))) X Z23 xL_ok hq2v rfl rfl (fun w h => List.mem_cons_of_mem _ (List.mem_append_left _ (List.mem_append_right _ h))) 2 rfl (zz_m 6 rfl) rfl dX6_pour_54 ?_
            refine lv_iload hx hb dX6_pour_57 (lv_at hl32_ 3 rfl) ?_
            obtain ⟨⟨i27, j28⟩, hf29⟩ := zG hf26
            clear hf26
            refine zy_ild X Z23 xL_ok (xH1 hq2v) (xH1l hq2v) i27 dX6_pour_59 ?_
            refine lv_iconst (v := 0) hx hb dX6_pour_60 (by decide) ?_
            refine lv_sipush (v := 999) hx hb dX6_pour_61 (by decide) ?_
            obtain ⟨r30, σ31, hc32, hf33⟩ := zBd hf29
            clear hf29
            refine zy_ci (r0 := r30) (WS1 := zg_W XL ad cA σ31) (TYS1 := zg_T XL cA) Z23 (va_runS (As := [.int (σ18 (q2v + 1) (Int32.toNatClampNeg x4)), .int 0, .int 999]) (rest := []) X (c_X6_held l D V ad cA (σ18 (q2v + 1) (Int32.toNatClampNeg x4)) 0 999 σ18 r30 σ31 hc32 H21.size) (va_cwS 3 hts gX6_pour_X6_held rfl rfl rfl zh_X6_held ⟨Nat.le_of_ble_eq_true rfl, Nat.le_of_ble_eq_true rfl⟩) (zz_pS Z23) rfl rfl hl32_.1 rfl (lv_room (Nat.le_of_ble_eq_true rfl)) dX6_pour_64 ⟨Nat.le_of_ble_eq_true rfl, Nat.le_of_ble_eq_true rfl⟩) (fun H34 lo35 Z36 => ?_)
            clear Z23 hc32
            refine lv_istore (lv' := [(5, .int r30), (0, .ref (ad 0)), (2, .ref (ad q2v)), (3, .int x3), (4, .int x4)]) hx hb dX6_pour_67 hl32_ (by decide) rfl (fun ls38 hl37 => ?_)
            clear hl32_
            refine lv_iload_n hx hb dX6_pour_69 rfl (lv_at hl37 3 rfl) ?_
            refine lv_iload hx hb dX6_pour_70 (lv_at hl37 0 rfl) ?_
            refine lv_aload_n hx hb dX6_pour_72 rfl (lv_at hl37 1 rfl) ?_
            refine zy_get (v := .ref (ad 153)) X Z36 xL_ok xk_0 rfl rfl (fun w h => List.mem_cons_of_mem _ (List.mem_append_left _ (List.mem_append_left _ (List.mem_append_left _ (List.mem_append_right _ h))))) 1 rfl (zz_m 4 rfl) rfl dX6_pour_73 ?_
            refine zy_get (v := .ref (ad 154)) X Z36 xL_ok xk_153 rfl rfl (fun w h => List.mem_cons_of_mem _ (List.mem_append_left _ (List.mem_append_left _ (List.mem_append_right _ h)))) 1 rfl (zz_m 7 rfl) rfl dX6_pour_76 ?_
            refine lv_iload hx hb dX6_pour_79 (lv_at hl37 4 rfl) ?_
            obtain ⟨⟨i39, j40⟩, hf41⟩ := zG hf33
            clear hf33
            refine zy_ald (v := (154 + 2 + (Int32.toNatClampNeg x4))) (C := RX4) X Z36 xL_ok xk_154 rfl rfl xl_154 rfl i39 rfl dX6_pour_81 ?_
            refine zy_get (v := .int (σ31 (154 + 2 + (Int32.toNatClampNeg x4)) 2)) X Z36 xL_ok (xS xk_154 j40) rfl rfl (fun w h => List.mem_cons_of_mem _ (List.mem_append_right _ h)) 2 rfl (zz_m 8 rfl) rfl dX6_pour_82 ?_
            refine lv_icmp_ne (tgt := 92) hx hb dX6_pour_85 (by decide) (fun b42 => ?_) (fun b42 => ?_)
            · have hf43 := zNot hf41 b42
              clear hf41
              refine lv_iconst (v := 1) hx hb dX6_pour_92 (by decide) ?_
              exact b93_ q2v x4 r30 1 x3 hq2v σ31 hf43 _ _ _ Z36 (lv_sub hl37 [1, 2, 4, 0] rfl)
            · have hf44 := zYes hf41 b42
              clear hf41
              refine lv_iconst (v := 0) hx hb dX6_pour_88 (by decide) ?_
              refine lv_goto (tgt := 93) hx hb dX6_pour_89 (by decide) ?_
              exact b93_ q2v x4 r30 0 x3 hq2v σ31 hf44 _ _ _ Z36 (lv_sub hl37 [1, 2, 4, 0] rfl)
  refine lv_iload_n hx hb dX6_pour_0 rfl (lv_at hl 1 rfl) ?_
  obtain ⟨r45, σ46, hc47, hf48⟩ := zBd hf
  clear hf
  refine zy_ci (r0 := r45) (WS1 := zg_W XL ad cA σ46) (TYS1 := zg_T XL cA) Z (va_runS (As := [.int a1]) (rest := []) X (c_X6_isSheet l D V ad cA a1 σ r45 σ46 hc47 s.heap.size) (va_cwS 1 hts gX6_pour_X6_isSheet rfl rfl rfl zh_X6_isSheet ⟨Nat.le_of_ble_eq_true rfl, Nat.le_of_ble_eq_true rfl⟩) (zz_pS Z) rfl rfl hl.1 rfl (lv_room (Nat.le_of_ble_eq_true rfl)) dX6_pour_1 ⟨Nat.le_of_ble_eq_true rfl, Nat.le_of_ble_eq_true rfl⟩) (fun H49 lo50 Z51 => ?_)
  clear Z hc47
  refine lv_if_ne (tgt := 10) hx hb dX6_pour_4 (by decide) (fun b52 => ?_) (fun b52 => ?_)
  · have hf53 := zNot hf48 b52
    clear hf48
    refine lv_aload_n hx hb dX6_pour_10 rfl (lv_at hl 0 rfl) ?_
    refine zy_get (v := .ref (ad 3)) X Z51 xL_ok xk_0 rfl rfl (fun w h => List.mem_cons_of_mem _ (List.mem_append_left _ (List.mem_append_left _ (List.mem_append_left _ (List.mem_append_right _ h))))) 7 rfl (zz_m 2 rfl) rfl dX6_pour_11 ?_
    refine lv_iload_n hx hb dX6_pour_14 rfl (lv_at hl 1 rfl) ?_
    obtain ⟨⟨i54, j55⟩, hf56⟩ := zG hf53
    clear hf53
    refine zy_ald (v := (53 + 2 * (Int32.toNatClampNeg a1))) (C := RX2) X Z51 xL_ok xk_3 rfl rfl xl_3 rfl i54 rfl dX6_pour_15 ?_
    refine lv_astore_n (lv' := [(2, .ref (ad (53 + 2 * (Int32.toNatClampNeg a1)))), (0, .ref (ad 0)), (1, .int a1)]) hx hb dX6_pour_16 rfl hl (by decide) rfl (fun ls58 hl57 => ?_)
    clear hl
    refine lv_aload_n hx hb dX6_pour_17 rfl (lv_at hl57 0 rfl) ?_
    obtain ⟨r59, σ60, hc61, hf62⟩ := zBd hf56
    clear hf56
    refine zy_ci (r0 := r59) (WS1 := zg_W XL ad cA σ60) (TYS1 := zg_T XL cA) Z51 (va_runV (As := []) (rest := []) X (c_X2_isMissing l D V ad cA (53 + 2 * (Int32.toNatClampNeg a1)) (xH j55) σ46 r59 σ60 hc61 H49.size) (cwV 0 hts gX6_pour_X2_isMissing rfl rfl rfl ⟨rfl, zh_X2_isMissing⟩ ⟨Nat.le_of_ble_eq_true rfl, Nat.le_of_ble_eq_true rfl⟩) (zy_pV (ci := 2) Z51 xL_ok (xH j55) rfl rfl) rfl rfl hl57.1 rfl (lv_room (Nat.le_of_ble_eq_true rfl)) dX6_pour_18 ⟨Nat.le_of_ble_eq_true rfl, Nat.le_of_ble_eq_true rfl⟩) (fun H63 lo64 Z65 => ?_)
    clear Z51 hc61
    refine lv_if_eq (tgt := 27) hx hb dX6_pour_21 (by decide) (fun b66 => ?_) (fun b66 => ?_)
    · have hf67 := zYes hf62 b66
      clear hf62
      refine lv_iconst (v := 0) hx hb dX6_pour_27 (by decide) ?_
      refine lv_istore_n (lv' := [(3, .int 0), (2, .ref (ad (53 + 2 * (Int32.toNatClampNeg a1)))), (0, .ref (ad 0)), (1, .int a1)]) hx hb dX6_pour_28 rfl hl57 (by decide) rfl (fun ls69 hl68 => ?_)
      clear hl57
      refine lv_iconst (v := 0) hx hb dX6_pour_29 (by decide) ?_
      refine lv_istore (lv' := [(4, .int 0), (3, .int 0), (2, .ref (ad (53 + 2 * (Int32.toNatClampNeg a1)))), (0, .ref (ad 0)), (1, .int a1)]) hx hb dX6_pour_30 hl68 (by decide) rfl (fun ls71 hl70 => ?_)
      clear hl68
      exact b32_ zfu (53 + 2 * (Int32.toNatClampNeg a1)) 0 0 (xH j55) σ60 hf67 _ _ _ Z65 (lv_sub hl70 [3, 2, 1, 0] rfl)
    · have hf72 := zNot hf62 b66
      clear hf62
      refine lv_ldc (v := (-1000000011)) hx hb hown (hts _ (zz_m 3 rfl)) dX6_pour_24 ?_
      exact zy_iret X hr hlk Z65 (zEnd hf72) dX6_pour_26
  · have hf73 := zYes hf48 b52
    clear hf48
    refine lv_ldc (v := (-1000000001)) hx hb hown (hts _ (zz_m 1 rfl)) dX6_pour_7 ?_
    exact zy_iret X hr hlk Z51 (zEnd hf73) dX6_pour_9
def B_X6_reads_80 (a1 : Int32) (rec29_ : Nat → Int32 → zg_S → Option (Int32 × zg_S)) (q2v : Nat) (x3 : Int32) (σ : zg_S) : Option (Int32 × zg_S) := rec29_ q2v (x3 + 1) σ
def B_X6_reads_29 (a1 : Int32) (rec29_ : Nat → Int32 → zg_S → Option (Int32 × zg_S)) (q2v : Nat) (x3 : Int32) (σ : zg_S) : Option (Int32 × zg_S) := (if (σ q2v 1) ≤ x3 then some ((-1000000005), σ) else zbd (f_X2_hasNumber q2v x3 σ) (fun (r6 : Int32) (σ7 : zg_S) => (if r6 = 0 then B_X6_reads_80 a1 rec29_ q2v x3 σ7 else zbd (f_X6_isStall x3 σ7) (fun (r16 : Int32) (σ17 : zg_S) => (if r16 = 0 then some (x3, σ17) else (if zin x3 24 = true then (if zin x3 9 = true then zbd (f_X0_lossOf 153 (154 + 2 + (Int32.toNatClampNeg x3)) σ17) (fun (r32 : Int32) (σ33 : zg_S) => (if (σ17 (q2v + 1) (Int32.toNatClampNeg x3)) = r32 then B_X6_reads_80 a1 rec29_ q2v x3 σ33 else some (x3, σ33))) else none) else none))))))
def L_X6_reads_29 (a1 : Int32) : Nat → Nat → Int32 → zg_S → Option (Int32 × zg_S) := zfix (fun _ _ _ => none) (B_X6_reads_29 a1)
def f_X6_reads (a1 : Int32) (σ : zg_S) : Option (Int32 × zg_S) := zbd (f_X6_isSheet a1 σ) (fun (r42 : Int32) (σ43 : zg_S) => (if r42 = 0 then some ((-1000000001), σ43) else (if zin a1 4 = true then zbd (f_X2_isMissing (53 + 2 * (Int32.toNatClampNeg a1)) σ43) (fun (r56 : Int32) (σ57 : zg_S) => (if r56 = 0 then L_X6_reads_29 a1 zfu (53 + 2 * (Int32.toNatClampNeg a1)) 0 σ57 else some ((-1000000011), σ57))) else none)))
set_option maxHeartbeats 4000000 in
set_option maxRecDepth 100000 in
theorem c_X6_reads (l : Launch) (D : va_G) (V : zz_V) (ad : Nat → Nat) (cA : Nat → ClassId) (a1 : Int32)  (σ : zg_S) (r0 : Int32) (σf : zg_S) (hf : f_X6_reads a1 σ = some (r0, σf)) : zM_I l yX6_reads wsX6_reads 4 92 D V XL ad cA [.ref (ad 0), .int a1] σ r0 σf := by
  intro sz
  refine Met.ofW (cc := cX6_reads) (maxL := 4) (ret := (some .int)) (by decide) rfl ?_
  intro p e s m args below meth c s₁ B hml hv
  obtain ⟨rfl, hC⟩ := hv
  have hx := B.exec
  have hb := B.bytes
  have hr := B.returns
  have hts := atoms_spec (ws := wsX6_reads) B.pre
  have hown : s.vm.findClass RX6 = some m.cls := findClass_of_methodNamed B.named
  have hlk := B.notSynchronized
  have X : CallFix p m c cX6_reads 4 s _ wsX6_reads RX6 := ⟨hx, hb, hml, hown, hts⟩
  have Z := zz_enter hC
  generalize va_A (zg_W XL ad cA σ) sz = A at Z ⊢
  have hl := lv_entry ([.ref (ad 0), .int a1]) (n := 4) (Nat.le_of_ble_eq_true rfl)
  rw [lg_entry_eq]
  generalize (lg_sl ([.ref (ad 0), .int a1]) ++ List.replicate (4 - (lg_sl ([.ref (ad 0), .int a1])).length) Slot.unset).toArray = ls at hl ⊢
  have hl : lv_has ls 4 [(0, .ref (ad 0)), (1, .int a1)] := hl
  unfold f_X6_reads at hf
  have b29_ : ∀ (k29_ : Nat) (q2v : Nat) (x3 : Int32) (hq2v : XL.2.1 q2v = 2) (σ : zg_S), L_X6_reads_29 a1 k29_ q2v x3 σ = some (r0, σf) → ∀ (H : Heap) (locs : List Loc) (ls : Array Slot), zz_S D V A s (zg_W XL ad cA σ) (zg_T XL cA) H locs → lv_has ls 4 [(0, .ref (ad 0)), (2, .ref (ad q2v)), (3, .int x3)] → W p l e (headSpec wsX6_reads { frames := 4, cells := 0, slots := 0, locals := 92 }).room s m (List.toArray [.ref (ad 0), .int a1]) below meth c H locs 0 0 (MQ below (va_Qi (fun r (_ : Unit) => r = r0) (fun _ t => zz_B D A (zg_W XL ad cA σf) (zg_T XL cA) t) A) (List.toArray [.ref (ad 0), .int a1]) s 0 0 A) (F0 m 29 ls []) := by
    intro k29_
    induction k29_ with
    | zero =>
        intro q2v x3 hq2v σ hf29_ H29_ locs29_ ls29_ Z29_ hl29_
        exact zNone hf29_
    | succ k29_ ih29_ =>
        intro q2v x3 hq2v σ hf29_ H29_ locs29_ ls29_ Z29_ hl29_
        replace hf29_ : B_X6_reads_29 a1 (L_X6_reads_29 a1 k29_) q2v x3 σ = some (r0, σf) := hf29_
        unfold B_X6_reads_29 at hf29_
        have b80_ : ∀ (q2v : Nat) (x3 : Int32) (hq2v : XL.2.1 q2v = 2) (σ : zg_S), B_X6_reads_80 a1 (L_X6_reads_29 a1 k29_) q2v x3 σ = some (r0, σf) → ∀ (H : Heap) (locs : List Loc) (ls : Array Slot), zz_S D V A s (zg_W XL ad cA σ) (zg_T XL cA) H locs → lv_has ls 4 [(0, .ref (ad 0)), (2, .ref (ad q2v)), (3, .int x3)] → W p l e (headSpec wsX6_reads { frames := 4, cells := 0, slots := 0, locals := 92 }).room s m (List.toArray [.ref (ad 0), .int a1]) below meth c H locs 0 0 (MQ below (va_Qi (fun r (_ : Unit) => r = r0) (fun _ t => zz_B D A (zg_W XL ad cA σf) (zg_T XL cA) t) A) (List.toArray [.ref (ad 0), .int a1]) s 0 0 A) (F0 m 80 ls []) := by
          intro q2v x3 hq2v σ hf80_ H80_ locs80_ ls80_ Z80_ hl80_
          unfold B_X6_reads_80 at hf80_
          refine lv_iinc (v := (x3 + 1)) (lv' := [(3, .int (x3 + 1)), (0, .ref (ad 0)), (2, .ref (ad q2v))]) hx hb dX6_reads_80 hl80_ (k := 2) rfl rfl (by decide) rfl (fun ls2 hl1 => ?_)
          clear hl80_
          refine lv_goto (tgt := 29) hx hb dX6_reads_83 (by decide) ?_
          exact ih29_ q2v (x3 + 1) hq2v σ hf80_ _ _ _ Z80_ (lv_sub hl1 [1, 2, 0] rfl)
        refine lv_iload_n hx hb dX6_reads_29 rfl (lv_at hl29_ 2 rfl) ?_
        refine lv_aload_n hx hb dX6_reads_30 rfl (lv_at hl29_ 1 rfl) ?_
        refine zy_get (v := .int (σ q2v 1)) X Z29_ xL_ok hq2v rfl rfl (fun w h => List.mem_cons_of_mem _ (List.mem_append_left _ (List.mem_append_left _ (List.mem_append_left _ (List.mem_append_right _ h))))) 1 rfl (zz_m 4 rfl) rfl dX6_reads_31 ?_
        refine lv_icmp_ge (tgt := 86) hx hb dX6_reads_34 (by decide) (fun b3 => ?_) (fun b3 => ?_)
        · have hf4 := zYes hf29_ b3
          clear hf29_
          refine lv_ldc (v := (-1000000005)) hx hb hown (hts _ (zz_m 8 rfl)) dX6_reads_86 ?_
          exact zy_iret X hr hlk Z29_ (zEnd hf4) dX6_reads_88
        · have hf5 := zNot hf29_ b3
          clear hf29_
          refine lv_aload_n hx hb dX6_reads_37 rfl (lv_at hl29_ 1 rfl) ?_
          refine lv_iload_n hx hb dX6_reads_38 rfl (lv_at hl29_ 2 rfl) ?_
          obtain ⟨r6, σ7, hc8, hf9⟩ := zBd hf5
          clear hf5
          refine zy_ci (r0 := r6) (WS1 := zg_W XL ad cA σ7) (TYS1 := zg_T XL cA) Z29_ (va_runV (As := [.int x3]) (rest := []) X (c_X2_hasNumber l D V ad cA q2v x3 hq2v σ r6 σ7 hc8 H29_.size) (cwV 1 hts gX6_reads_X2_hasNumber rfl rfl rfl ⟨rfl, zh_X2_hasNumber⟩ ⟨Nat.le_of_ble_eq_true rfl, Nat.le_of_ble_eq_true rfl⟩) (zy_pV (ci := 2) Z29_ xL_ok hq2v rfl rfl) rfl rfl hl29_.1 rfl (lv_room (Nat.le_of_ble_eq_true rfl)) dX6_reads_39 ⟨Nat.le_of_ble_eq_true rfl, Nat.le_of_ble_eq_true rfl⟩) (fun H10 lo11 Z12 => ?_)
          clear Z29_ hc8
          refine lv_if_eq (tgt := 80) hx hb dX6_reads_42 (by decide) (fun b13 => ?_) (fun b13 => ?_)
          · have hf14 := zYes hf9 b13
            clear hf9
            exact b80_ q2v x3 hq2v σ7 hf14 _ _ _ Z12 (lv_sub hl29_ [0, 1, 2] rfl)
          · have hf15 := zNot hf9 b13
            clear hf9
            refine lv_aload_n hx hb dX6_reads_45 rfl (lv_at hl29_ 0 rfl) ?_
            refine lv_iload_n hx hb dX6_reads_46 rfl (lv_at hl29_ 2 rfl) ?_
            obtain ⟨r16, σ17, hc18, hf19⟩ := zBd hf15
            clear hf15
            refine zy_ci (r0 := r16) (WS1 := zg_W XL ad cA σ17) (TYS1 := zg_T XL cA) Z12 (va_runV (As := [.int x3]) (rest := []) X (c_X6_isStall l D V ad cA x3 σ7 r16 σ17 hc18 H10.size) (cwV 1 hts gX6_reads_X6_isStall rfl rfl rfl ⟨rfl, zh_X6_isStall⟩ ⟨Nat.le_of_ble_eq_true rfl, Nat.le_of_ble_eq_true rfl⟩) (zy_pV (ci := 6) Z12 xL_ok xk_0 rfl rfl) rfl rfl hl29_.1 rfl (lv_room (Nat.le_of_ble_eq_true rfl)) dX6_reads_47 ⟨Nat.le_of_ble_eq_true rfl, Nat.le_of_ble_eq_true rfl⟩) (fun H20 lo21 Z22 => ?_)
            clear Z12 hc18
            refine lv_if_eq (tgt := 78) hx hb dX6_reads_50 (by decide) (fun b23 => ?_) (fun b23 => ?_)
            · have hf24 := zYes hf19 b23
              clear hf19
              refine lv_iload_n hx hb dX6_reads_78 rfl (lv_at hl29_ 2 rfl) ?_
              exact zy_iret X hr hlk Z22 (zEnd hf24) dX6_reads_79
            · have hf25 := zNot hf19 b23
              clear hf19
              refine lv_aload_n hx hb dX6_reads_53 rfl (lv_at hl29_ 1 rfl) ?_
              refine zy_get (v := .ref (ad (q2v + 1))) X Z22 xL_ok hq2v rfl rfl (fun w h => List.mem_cons_of_mem _ (List.mem_append_left _ (List.mem_append_left _ (List.mem_append_left _ (List.mem_append_right _ h))))) 2 rfl (zz_m 5 rfl) rfl dX6_reads_54 ?_
              refine lv_iload_n hx hb dX6_reads_57 rfl (lv_at hl29_ 2 rfl) ?_
              obtain ⟨⟨i26, j27⟩, hf28⟩ := zG hf25
              clear hf25
              refine zy_ild X Z22 xL_ok (xH1 hq2v) (xH1l hq2v) i26 dX6_reads_58 ?_
              refine lv_aload_n hx hb dX6_reads_59 rfl (lv_at hl29_ 0 rfl) ?_
              refine zy_get (v := .ref (ad 153)) X Z22 xL_ok xk_0 rfl rfl (fun w h => List.mem_cons_of_mem _ (List.mem_append_left _ (List.mem_append_left _ (List.mem_append_left _ (List.mem_append_left _ (List.mem_append_right _ h)))))) 1 rfl (zz_m 6 rfl) rfl dX6_reads_60 ?_
              refine lv_aload_n hx hb dX6_reads_63 rfl (lv_at hl29_ 0 rfl) ?_
              refine zy_get (v := .ref (ad 153)) X Z22 xL_ok xk_0 rfl rfl (fun w h => List.mem_cons_of_mem _ (List.mem_append_left _ (List.mem_append_left _ (List.mem_append_left _ (List.mem_append_left _ (List.mem_append_right _ h)))))) 1 rfl (zz_m 6 rfl) rfl dX6_reads_64 ?_
              refine zy_get (v := .ref (ad 154)) X Z22 xL_ok xk_153 rfl rfl (fun w h => List.mem_cons_of_mem _ (List.mem_append_left _ (List.mem_append_left _ (List.mem_append_right _ h)))) 1 rfl (zz_m 7 rfl) rfl dX6_reads_67 ?_
              refine lv_iload_n hx hb dX6_reads_70 rfl (lv_at hl29_ 2 rfl) ?_
              obtain ⟨⟨i29, j30⟩, hf31⟩ := zG hf28
              clear hf28
              refine zy_ald (v := (154 + 2 + (Int32.toNatClampNeg x3))) (C := RX4) X Z22 xL_ok xk_154 rfl rfl xl_154 rfl i29 rfl dX6_reads_71 ?_
              obtain ⟨r32, σ33, hc34, hf35⟩ := zBd hf31
              clear hf31
              refine zy_ci (r0 := r32) (WS1 := zg_W XL ad cA σ33) (TYS1 := zg_T XL cA) Z22 (va_runV (As := [.ref (ad (154 + 2 + (Int32.toNatClampNeg x3)))]) (rest := [.int (σ17 (q2v + 1) (Int32.toNatClampNeg x3))]) X (c_X0_lossOf l D V ad cA 153 (154 + 2 + (Int32.toNatClampNeg x3)) xk_153 (xS xk_154 j30) σ17 r32 σ33 hc34 H20.size) (cwV 1 hts gX6_reads_X0_lossOf rfl rfl rfl ⟨rfl, zh_X0_lossOf⟩ ⟨Nat.le_of_ble_eq_true rfl, Nat.le_of_ble_eq_true rfl⟩) (zy_pV (ci := 0) Z22 xL_ok xk_153 rfl rfl) rfl rfl hl29_.1 rfl (lv_room (Nat.le_of_ble_eq_true rfl)) dX6_reads_72 ⟨Nat.le_of_ble_eq_true rfl, Nat.le_of_ble_eq_true rfl⟩) (fun H36 lo37 Z38 => ?_)
              clear Z22 hc34
              refine lv_icmp_eq (tgt := 80) hx hb dX6_reads_75 (by decide) (fun b39 => ?_) (fun b39 => ?_)
              · have hf40 := zYes hf35 b39
                clear hf35
                exact b80_ q2v x3 hq2v σ33 hf40 _ _ _ Z38 (lv_sub hl29_ [0, 1, 2] rfl)
              · have hf41 := zNot hf35 b39
                clear hf35
                refine lv_iload_n hx hb dX6_reads_78 rfl (lv_at hl29_ 2 rfl) ?_
                exact zy_iret X hr hlk Z38 (zEnd hf41) dX6_reads_79
  refine lv_iload_n hx hb dX6_reads_0 rfl (lv_at hl 1 rfl) ?_
  obtain ⟨r42, σ43, hc44, hf45⟩ := zBd hf
  clear hf
  refine zy_ci (r0 := r42) (WS1 := zg_W XL ad cA σ43) (TYS1 := zg_T XL cA) Z (va_runS (As := [.int a1]) (rest := []) X (c_X6_isSheet l D V ad cA a1 σ r42 σ43 hc44 s.heap.size) (va_cwS 1 hts gX6_reads_X6_isSheet rfl rfl rfl zh_X6_isSheet ⟨Nat.le_of_ble_eq_true rfl, Nat.le_of_ble_eq_true rfl⟩) (zz_pS Z) rfl rfl hl.1 rfl (lv_room (Nat.le_of_ble_eq_true rfl)) dX6_reads_1 ⟨Nat.le_of_ble_eq_true rfl, Nat.le_of_ble_eq_true rfl⟩) (fun H46 lo47 Z48 => ?_)
  clear Z hc44
  refine lv_if_ne (tgt := 10) hx hb dX6_reads_4 (by decide) (fun b49 => ?_) (fun b49 => ?_)
  · have hf50 := zNot hf45 b49
    clear hf45
    refine lv_aload_n hx hb dX6_reads_10 rfl (lv_at hl 0 rfl) ?_
    refine zy_get (v := .ref (ad 3)) X Z48 xL_ok xk_0 rfl rfl (fun w h => List.mem_cons_of_mem _ (List.mem_append_left _ (List.mem_append_left _ (List.mem_append_left _ (List.mem_append_left _ (List.mem_append_right _ h)))))) 7 rfl (zz_m 2 rfl) rfl dX6_reads_11 ?_
    refine lv_iload_n hx hb dX6_reads_14 rfl (lv_at hl 1 rfl) ?_
    obtain ⟨⟨i51, j52⟩, hf53⟩ := zG hf50
    clear hf50
    refine zy_ald (v := (53 + 2 * (Int32.toNatClampNeg a1))) (C := RX2) X Z48 xL_ok xk_3 rfl rfl xl_3 rfl i51 rfl dX6_reads_15 ?_
    refine lv_astore_n (lv' := [(2, .ref (ad (53 + 2 * (Int32.toNatClampNeg a1)))), (0, .ref (ad 0)), (1, .int a1)]) hx hb dX6_reads_16 rfl hl (by decide) rfl (fun ls55 hl54 => ?_)
    clear hl
    refine lv_aload_n hx hb dX6_reads_17 rfl (lv_at hl54 0 rfl) ?_
    obtain ⟨r56, σ57, hc58, hf59⟩ := zBd hf53
    clear hf53
    refine zy_ci (r0 := r56) (WS1 := zg_W XL ad cA σ57) (TYS1 := zg_T XL cA) Z48 (va_runV (As := []) (rest := []) X (c_X2_isMissing l D V ad cA (53 + 2 * (Int32.toNatClampNeg a1)) (xH j52) σ43 r56 σ57 hc58 H46.size) (cwV 0 hts gX6_reads_X2_isMissing rfl rfl rfl ⟨rfl, zh_X2_isMissing⟩ ⟨Nat.le_of_ble_eq_true rfl, Nat.le_of_ble_eq_true rfl⟩) (zy_pV (ci := 2) Z48 xL_ok (xH j52) rfl rfl) rfl rfl hl54.1 rfl (lv_room (Nat.le_of_ble_eq_true rfl)) dX6_reads_18 ⟨Nat.le_of_ble_eq_true rfl, Nat.le_of_ble_eq_true rfl⟩) (fun H60 lo61 Z62 => ?_)
    clear Z48 hc58
    refine lv_if_eq (tgt := 27) hx hb dX6_reads_21 (by decide) (fun b63 => ?_) (fun b63 => ?_)
    · have hf64 := zYes hf59 b63
      clear hf59
      refine lv_iconst (v := 0) hx hb dX6_reads_27 (by decide) ?_
      refine lv_istore_n (lv' := [(3, .int 0), (2, .ref (ad (53 + 2 * (Int32.toNatClampNeg a1)))), (0, .ref (ad 0)), (1, .int a1)]) hx hb dX6_reads_28 rfl hl54 (by decide) rfl (fun ls66 hl65 => ?_)
      clear hl54
      exact b29_ zfu (53 + 2 * (Int32.toNatClampNeg a1)) 0 (xH j52) σ57 hf64 _ _ _ Z62 (lv_sub hl65 [2, 1, 0] rfl)
    · have hf67 := zNot hf59 b63
      clear hf59
      refine lv_ldc (v := (-1000000011)) hx hb hown (hts _ (zz_m 3 rfl)) dX6_reads_24 ?_
      exact zy_iret X hr hlk Z62 (zEnd hf67) dX6_reads_26
  · have hf68 := zYes hf45 b49
    clear hf45
    refine lv_ldc (v := (-1000000001)) hx hb hown (hts _ (zz_m 1 rfl)) dX6_reads_7 ?_
    exact zy_iret X hr hlk Z48 (zEnd hf68) dX6_reads_9
def f_X6_rest (a1 : Int32) (a2 : Int32) (σ : zg_S) : Option (Int32 × zg_S) := zbd (f_X6_isSlot a1 σ) (fun (r1 : Int32) (σ2 : zg_S) => (if r1 = 0 then some ((-1000000001), σ2) else (if zin a1 5 = true then zbd (f_X3_refuses (61 + 4 * (Int32.toNatClampNeg a1)) 3 σ2) (fun (r13 : Int32) (σ14 : zg_S) => (if r13 = 0 then (if a2 = 0 then some ((-1000000002), σ14) else (if a2 = 0 then none else some ((σ14 (61 + 4 * (Int32.toNatClampNeg a1)) 1) - (σ14 (61 + 4 * (Int32.toNatClampNeg a1)) 1) / a2 * a2, σ14))) else some (r13, σ14))) else none)))
set_option maxHeartbeats 4000000 in
set_option maxRecDepth 100000 in
theorem c_X6_rest (l : Launch) (D : va_G) (V : zz_V) (ad : Nat → Nat) (cA : Nat → ClassId) (a1 : Int32) (a2 : Int32)  (σ : zg_S) (r0 : Int32) (σf : zg_S) (hf : f_X6_rest a1 a2 σ = some (r0, σf)) : zM_I l yX6_rest wsX6_rest 2 42 D V XL ad cA [.ref (ad 0), .int a1, .int a2] σ r0 σf := by
  intro sz
  refine Met.ofW (cc := cX6_rest) (maxL := 4) (ret := (some .int)) (by decide) rfl ?_
  intro p e s m args below meth c s₁ B hml hv
  obtain ⟨rfl, hC⟩ := hv
  have hx := B.exec
  have hb := B.bytes
  have hr := B.returns
  have hts := atoms_spec (ws := wsX6_rest) B.pre
  have hown : s.vm.findClass RX6 = some m.cls := findClass_of_methodNamed B.named
  have hlk := B.notSynchronized
  have X : CallFix p m c cX6_rest 4 s _ wsX6_rest RX6 := ⟨hx, hb, hml, hown, hts⟩
  have Z := zz_enter hC
  generalize va_A (zg_W XL ad cA σ) sz = A at Z ⊢
  have hl := lv_entry ([.ref (ad 0), .int a1, .int a2]) (n := 4) (Nat.le_of_ble_eq_true rfl)
  rw [lg_entry_eq]
  generalize (lg_sl ([.ref (ad 0), .int a1, .int a2]) ++ List.replicate (4 - (lg_sl ([.ref (ad 0), .int a1, .int a2])).length) Slot.unset).toArray = ls at hl ⊢
  have hl : lv_has ls 4 [(0, .ref (ad 0)), (1, .int a1), (2, .int a2)] := hl
  unfold f_X6_rest at hf
  refine lv_iload_n hx hb dX6_rest_0 rfl (lv_at hl 1 rfl) ?_
  obtain ⟨r1, σ2, hc3, hf4⟩ := zBd hf
  clear hf
  refine zy_ci (r0 := r1) (WS1 := zg_W XL ad cA σ2) (TYS1 := zg_T XL cA) Z (va_runS (As := [.int a1]) (rest := []) X (c_X6_isSlot l D V ad cA a1 σ r1 σ2 hc3 s.heap.size) (va_cwS 1 hts gX6_rest_X6_isSlot rfl rfl rfl zh_X6_isSlot ⟨Nat.le_of_ble_eq_true rfl, Nat.le_of_ble_eq_true rfl⟩) (zz_pS Z) rfl rfl hl.1 rfl (lv_room (Nat.le_of_ble_eq_true rfl)) dX6_rest_1 ⟨Nat.le_of_ble_eq_true rfl, Nat.le_of_ble_eq_true rfl⟩) (fun H5 lo6 Z7 => ?_)
  clear Z hc3
  refine lv_if_ne (tgt := 10) hx hb dX6_rest_4 (by decide) (fun b8 => ?_) (fun b8 => ?_)
  · have hf9 := zNot hf4 b8
    clear hf4
    refine lv_aload_n hx hb dX6_rest_10 rfl (lv_at hl 0 rfl) ?_
    refine zy_get (v := .ref (ad 4)) X Z7 xL_ok xk_0 rfl rfl (fun w h => List.mem_cons_of_mem _ (List.mem_append_left _ (List.mem_append_right _ h))) 8 rfl (zz_m 2 rfl) rfl dX6_rest_11 ?_
    refine lv_iload_n hx hb dX6_rest_14 rfl (lv_at hl 1 rfl) ?_
    obtain ⟨⟨i10, j11⟩, hf12⟩ := zG hf9
    clear hf9
    refine zy_ald (v := (61 + 4 * (Int32.toNatClampNeg a1))) (C := RX3) X Z7 xL_ok xk_4 rfl rfl xl_4 rfl i10 rfl dX6_rest_15 ?_
    refine lv_iconst (v := 3) hx hb dX6_rest_16 (by decide) ?_
    obtain ⟨r13, σ14, hc15, hf16⟩ := zBd hf12
    clear hf12
    refine zy_ci (r0 := r13) (WS1 := zg_W XL ad cA σ14) (TYS1 := zg_T XL cA) Z7 (va_runV (As := [.int 3]) (rest := []) X (c_X3_refuses l D V ad cA (61 + 4 * (Int32.toNatClampNeg a1)) 3 (xO j11) σ2 r13 σ14 hc15 H5.size) (cwV 1 hts gX6_rest_X3_refuses rfl rfl rfl ⟨rfl, zh_X3_refuses⟩ ⟨Nat.le_of_ble_eq_true rfl, Nat.le_of_ble_eq_true rfl⟩) (zy_pV (ci := 3) Z7 xL_ok (xO j11) rfl rfl) rfl rfl hl.1 rfl (lv_room (Nat.le_of_ble_eq_true rfl)) dX6_rest_17 ⟨Nat.le_of_ble_eq_true rfl, Nat.le_of_ble_eq_true rfl⟩) (fun H17 lo18 Z19 => ?_)
    clear Z7 hc15
    refine lv_istore_n (lv' := [(3, .int r13), (0, .ref (ad 0)), (1, .int a1), (2, .int a2)]) hx hb dX6_rest_20 rfl hl (by decide) rfl (fun ls21 hl20 => ?_)
    clear hl
    refine lv_iload_n hx hb dX6_rest_21 rfl (lv_at hl20 0 rfl) ?_
    refine lv_if_eq (tgt := 27) hx hb dX6_rest_22 (by decide) (fun b22 => ?_) (fun b22 => ?_)
    · have hf23 := zYes hf16 b22
      clear hf16
      refine lv_iload_n hx hb dX6_rest_27 rfl (lv_at hl20 3 rfl) ?_
      refine lv_if_ne (tgt := 37) hx hb dX6_rest_28 (by decide) (fun b24 => ?_) (fun b24 => ?_)
      · have hf25 := zNot hf23 b24
        clear hf23
        refine lv_aload_n hx hb dX6_rest_37 rfl (lv_at hl20 1 rfl) ?_
        refine zy_get (v := .ref (ad 4)) X Z19 xL_ok xk_0 rfl rfl (fun w h => List.mem_cons_of_mem _ (List.mem_append_left _ (List.mem_append_right _ h))) 8 rfl (zz_m 2 rfl) rfl dX6_rest_38 ?_
        refine lv_iload_n hx hb dX6_rest_41 rfl (lv_at hl20 2 rfl) ?_
        refine zy_ald (v := (61 + 4 * (Int32.toNatClampNeg a1))) (C := RX3) X Z19 xL_ok xk_4 rfl rfl xl_4 rfl i10 rfl dX6_rest_42 ?_
        refine zy_get (v := .int (σ14 (61 + 4 * (Int32.toNatClampNeg a1)) 1)) X Z19 xL_ok (xO j11) rfl rfl (fun w h => List.mem_cons_of_mem _ (List.mem_append_right _ h)) 1 rfl (zz_m 4 rfl) rfl dX6_rest_43 ?_
        refine lv_iload_n hx hb dX6_rest_46 rfl (lv_at hl20 3 rfl) ?_
        obtain ⟨z26, hf27⟩ := zD hf25
        clear hf25
        refine lv_irem hx hb dX6_rest_47 z26 ?_
        exact zy_iret X hr hlk Z19 (zEnd hf27) dX6_rest_48
      · have hf28 := zYes hf23 b24
        clear hf23
        refine lv_ldcw (v := (-1000000002)) hx hb hown (hts _ (zz_m 3 rfl)) dX6_rest_31 ?_
        refine lv_goto (tgt := 48) hx hb dX6_rest_34 (by decide) ?_
        exact zy_iret X hr hlk Z19 (zEnd hf28) dX6_rest_48
    · have hf29 := zNot hf16 b22
      clear hf16
      refine lv_iload_n hx hb dX6_rest_25 rfl (lv_at hl20 0 rfl) ?_
      exact zy_iret X hr hlk Z19 (zEnd hf29) dX6_rest_26
  · have hf30 := zYes hf4 b8
    clear hf4
    refine lv_ldc (v := (-1000000001)) hx hb hown (hts _ (zz_m 1 rfl)) dX6_rest_7 ?_
    exact zy_iret X hr hlk Z7 (zEnd hf30) dX6_rest_9
def f_X6_ruleFirst (a1 : Int32) (σ : zg_S) : Option (Int32 × zg_S) := zbd (f_X0_lastFirst 153 σ) (fun (r1 : Int32) (σ2 : zg_S) => zbd (f_X6_within a1 0 r1 σ2) (fun (r8 : Int32) (σ9 : zg_S) => (if r8 = 0 then some ((-1000000001), σ9) else zlet (zg_up σ9 153 6 a1) (fun (σ19 : zg_S) => some (σ9 153 6, σ19)))))
set_option maxHeartbeats 4000000 in
set_option maxRecDepth 100000 in
theorem c_X6_ruleFirst (l : Launch) (D : va_G) (V : zz_V) (ad : Nat → Nat) (cA : Nat → ClassId) (a1 : Int32)  (σ : zg_S) (r0 : Int32) (σf : zg_S) (hf : f_X6_ruleFirst a1 σ = some (r0, σf)) : zM_I l yX6_ruleFirst wsX6_ruleFirst 1 22 D V XL ad cA [.ref (ad 0), .int a1] σ r0 σf := by
  intro sz
  refine Met.ofW (cc := cX6_ruleFirst) (maxL := 3) (ret := (some .int)) (by decide) rfl ?_
  intro p e s m args below meth c s₁ B hml hv
  obtain ⟨rfl, hC⟩ := hv
  have hx := B.exec
  have hb := B.bytes
  have hr := B.returns
  have hts := atoms_spec (ws := wsX6_ruleFirst) B.pre
  have hown : s.vm.findClass RX6 = some m.cls := findClass_of_methodNamed B.named
  have hlk := B.notSynchronized
  have X : CallFix p m c cX6_ruleFirst 3 s _ wsX6_ruleFirst RX6 := ⟨hx, hb, hml, hown, hts⟩
  have Z := zz_enter hC
  generalize va_A (zg_W XL ad cA σ) sz = A at Z ⊢
  have hl := lv_entry ([.ref (ad 0), .int a1]) (n := 3) (Nat.le_of_ble_eq_true rfl)
  rw [lg_entry_eq]
  generalize (lg_sl ([.ref (ad 0), .int a1]) ++ List.replicate (3 - (lg_sl ([.ref (ad 0), .int a1])).length) Slot.unset).toArray = ls at hl ⊢
  have hl : lv_has ls 3 [(0, .ref (ad 0)), (1, .int a1)] := hl
  unfold f_X6_ruleFirst at hf
  refine lv_iload_n hx hb dX6_ruleFirst_0 rfl (lv_at hl 1 rfl) ?_
  refine lv_iconst (v := 0) hx hb dX6_ruleFirst_1 (by decide) ?_
  refine lv_aload_n hx hb dX6_ruleFirst_2 rfl (lv_at hl 0 rfl) ?_
  refine zy_get (v := .ref (ad 153)) X Z xL_ok xk_0 rfl rfl (fun w h => List.mem_cons_of_mem _ (List.mem_append_left _ (List.mem_append_right _ h))) 1 rfl (zz_m 1 rfl) rfl dX6_ruleFirst_3 ?_
  obtain ⟨r1, σ2, hc3, hf4⟩ := zBd hf
  clear hf
  refine zy_ci (r0 := r1) (WS1 := zg_W XL ad cA σ2) (TYS1 := zg_T XL cA) Z (va_runV (As := []) (rest := [.int 0, .int a1]) X (c_X0_lastFirst l D V ad cA 153 xk_153 σ r1 σ2 hc3 s.heap.size) (cwV 0 hts gX6_ruleFirst_X0_lastFirst rfl rfl rfl ⟨rfl, zh_X0_lastFirst⟩ ⟨Nat.le_of_ble_eq_true rfl, Nat.le_of_ble_eq_true rfl⟩) (zy_pV (ci := 0) Z xL_ok xk_153 rfl rfl) rfl rfl hl.1 rfl (lv_room (Nat.le_of_ble_eq_true rfl)) dX6_ruleFirst_6 ⟨Nat.le_of_ble_eq_true rfl, Nat.le_of_ble_eq_true rfl⟩) (fun H5 lo6 Z7 => ?_)
  clear Z hc3
  obtain ⟨r8, σ9, hc10, hf11⟩ := zBd hf4
  clear hf4
  refine zy_ci (r0 := r8) (WS1 := zg_W XL ad cA σ9) (TYS1 := zg_T XL cA) Z7 (va_runS (As := [.int a1, .int 0, .int r1]) (rest := []) X (c_X6_within l D V ad cA a1 0 r1 σ2 r8 σ9 hc10 H5.size) (va_cwS 3 hts gX6_ruleFirst_X6_within rfl rfl rfl zh_X6_within ⟨Nat.le_of_ble_eq_true rfl, Nat.le_of_ble_eq_true rfl⟩) (zz_pS Z7) rfl rfl hl.1 rfl (lv_room (Nat.le_of_ble_eq_true rfl)) dX6_ruleFirst_9 ⟨Nat.le_of_ble_eq_true rfl, Nat.le_of_ble_eq_true rfl⟩) (fun H12 lo13 Z14 => ?_)
  clear Z7 hc10
  refine lv_if_ne (tgt := 18) hx hb dX6_ruleFirst_12 (by decide) (fun b15 => ?_) (fun b15 => ?_)
  · have hf16 := zNot hf11 b15
    clear hf11
    refine lv_aload_n hx hb dX6_ruleFirst_18 rfl (lv_at hl 0 rfl) ?_
    refine zy_get (v := .ref (ad 153)) X Z14 xL_ok xk_0 rfl rfl (fun w h => List.mem_cons_of_mem _ (List.mem_append_left _ (List.mem_append_right _ h))) 1 rfl (zz_m 1 rfl) rfl dX6_ruleFirst_19 ?_
    refine zy_get (v := .int (σ9 153 6)) X Z14 xL_ok xk_153 rfl rfl (fun w h => List.mem_cons_of_mem _ (List.mem_append_right _ h)) 6 rfl (zz_m 3 rfl) rfl dX6_ruleFirst_22 ?_
    refine lv_istore_n (lv' := [(2, .int (σ9 153 6)), (0, .ref (ad 0)), (1, .int a1)]) hx hb dX6_ruleFirst_25 rfl hl (by decide) rfl (fun ls18 hl17 => ?_)
    clear hl
    refine lv_aload_n hx hb dX6_ruleFirst_26 rfl (lv_at hl17 1 rfl) ?_
    refine zy_get (v := .ref (ad 153)) X Z14 xL_ok xk_0 rfl rfl (fun w h => List.mem_cons_of_mem _ (List.mem_append_left _ (List.mem_append_right _ h))) 1 rfl (zz_m 1 rfl) rfl dX6_ruleFirst_27 ?_
    refine lv_iload_n hx hb dX6_ruleFirst_30 rfl (lv_at hl17 2 rfl) ?_
    obtain ⟨σ19, es20, hf21⟩ := zLet hf16
    clear hf16
    refine zy_put (v := a1) (σ' := σ19) X Z14 xL_ok xk_153 rfl rfl (fun w h => List.mem_cons_of_mem _ (List.mem_append_right _ h)) tyX0 tyX0_ok nmX0 6 rfl (zz_m 3 rfl) rfl rfl rfl (fun _ => rfl) (fun _ => rfl) es20 dX6_ruleFirst_31 (fun H22 lo23 Z24 => ?_)
    clear Z14 es20
    refine lv_iload_n hx hb dX6_ruleFirst_34 rfl (lv_at hl17 0 rfl) ?_
    exact zy_iret X hr hlk Z24 (zEnd hf21) dX6_ruleFirst_35
  · have hf25 := zYes hf11 b15
    clear hf11
    refine lv_ldc (v := (-1000000001)) hx hb hown (hts _ (zz_m 2 rfl)) dX6_ruleFirst_15 ?_
    exact zy_iret X hr hlk Z14 (zEnd hf25) dX6_ruleFirst_17
def f_X6_ruleWidth (a1 : Int32) (σ : zg_S) : Option (Int32 × zg_S) := zbd (f_X6_within a1 1 6 σ) (fun (r1 : Int32) (σ2 : zg_S) => (if r1 = 0 then some ((-1000000001), σ2) else zbd (f_X0_widen 153 a1 σ2) (fun (r12 : Int32) (σ13 : zg_S) => some (σ2 153 5, σ13))))
set_option maxHeartbeats 4000000 in
set_option maxRecDepth 100000 in
theorem c_X6_ruleWidth (l : Launch) (D : va_G) (V : zz_V) (ad : Nat → Nat) (cA : Nat → ClassId) (a1 : Int32)  (σ : zg_S) (r0 : Int32) (σf : zg_S) (hf : f_X6_ruleWidth a1 σ = some (r0, σf)) : zM_I l yX6_ruleWidth wsX6_ruleWidth 3 67 D V XL ad cA [.ref (ad 0), .int a1] σ r0 σf := by
  intro sz
  refine Met.ofW (cc := cX6_ruleWidth) (maxL := 3) (ret := (some .int)) (by decide) rfl ?_
  intro p e s m args below meth c s₁ B hml hv
  obtain ⟨rfl, hC⟩ := hv
  have hx := B.exec
  have hb := B.bytes
  have hr := B.returns
  have hts := atoms_spec (ws := wsX6_ruleWidth) B.pre
  have hown : s.vm.findClass RX6 = some m.cls := findClass_of_methodNamed B.named
  have hlk := B.notSynchronized
  have X : CallFix p m c cX6_ruleWidth 3 s _ wsX6_ruleWidth RX6 := ⟨hx, hb, hml, hown, hts⟩
  have Z := zz_enter hC
  generalize va_A (zg_W XL ad cA σ) sz = A at Z ⊢
  have hl := lv_entry ([.ref (ad 0), .int a1]) (n := 3) (Nat.le_of_ble_eq_true rfl)
  rw [lg_entry_eq]
  generalize (lg_sl ([.ref (ad 0), .int a1]) ++ List.replicate (3 - (lg_sl ([.ref (ad 0), .int a1])).length) Slot.unset).toArray = ls at hl ⊢
  have hl : lv_has ls 3 [(0, .ref (ad 0)), (1, .int a1)] := hl
  unfold f_X6_ruleWidth at hf
  refine lv_iload_n hx hb dX6_ruleWidth_0 rfl (lv_at hl 1 rfl) ?_
  refine lv_iconst (v := 1) hx hb dX6_ruleWidth_1 (by decide) ?_
  refine lv_bipush (v := 6) hx hb dX6_ruleWidth_2 (by decide) ?_
  obtain ⟨r1, σ2, hc3, hf4⟩ := zBd hf
  clear hf
  refine zy_ci (r0 := r1) (WS1 := zg_W XL ad cA σ2) (TYS1 := zg_T XL cA) Z (va_runS (As := [.int a1, .int 1, .int 6]) (rest := []) X (c_X6_within l D V ad cA a1 1 6 σ r1 σ2 hc3 s.heap.size) (va_cwS 3 hts gX6_ruleWidth_X6_within rfl rfl rfl zh_X6_within ⟨Nat.le_of_ble_eq_true rfl, Nat.le_of_ble_eq_true rfl⟩) (zz_pS Z) rfl rfl hl.1 rfl (lv_room (Nat.le_of_ble_eq_true rfl)) dX6_ruleWidth_4 ⟨Nat.le_of_ble_eq_true rfl, Nat.le_of_ble_eq_true rfl⟩) (fun H5 lo6 Z7 => ?_)
  clear Z hc3
  refine lv_if_ne (tgt := 13) hx hb dX6_ruleWidth_7 (by decide) (fun b8 => ?_) (fun b8 => ?_)
  · have hf9 := zNot hf4 b8
    clear hf4
    refine lv_aload_n hx hb dX6_ruleWidth_13 rfl (lv_at hl 0 rfl) ?_
    refine zy_get (v := .ref (ad 153)) X Z7 xL_ok xk_0 rfl rfl (fun w h => List.mem_cons_of_mem _ (List.mem_append_left _ (List.mem_append_right _ h))) 1 rfl (zz_m 2 rfl) rfl dX6_ruleWidth_14 ?_
    refine zy_get (v := .int (σ2 153 5)) X Z7 xL_ok xk_153 rfl rfl (fun w h => List.mem_cons_of_mem _ (List.mem_append_right _ h)) 5 rfl (zz_m 3 rfl) rfl dX6_ruleWidth_17 ?_
    refine lv_istore_n (lv' := [(2, .int (σ2 153 5)), (0, .ref (ad 0)), (1, .int a1)]) hx hb dX6_ruleWidth_20 rfl hl (by decide) rfl (fun ls11 hl10 => ?_)
    clear hl
    refine lv_aload_n hx hb dX6_ruleWidth_21 rfl (lv_at hl10 1 rfl) ?_
    refine zy_get (v := .ref (ad 153)) X Z7 xL_ok xk_0 rfl rfl (fun w h => List.mem_cons_of_mem _ (List.mem_append_left _ (List.mem_append_right _ h))) 1 rfl (zz_m 2 rfl) rfl dX6_ruleWidth_22 ?_
    refine lv_iload_n hx hb dX6_ruleWidth_25 rfl (lv_at hl10 2 rfl) ?_
    obtain ⟨r12, σ13, hc14, hf15⟩ := zBd hf9
    clear hf9
    refine zy_cv (WS1 := zg_W XL ad cA σ13) (TYS1 := zg_T XL cA) Z7 (va_runV (As := [.int a1]) (rest := []) X (c_X0_widen l D V ad cA 153 a1 xk_153 σ2 r12 σ13 hc14 H5.size) (cwV 1 hts gX6_ruleWidth_X0_widen rfl rfl rfl ⟨rfl, zh_X0_widen⟩ ⟨Nat.le_of_ble_eq_true rfl, Nat.le_of_ble_eq_true rfl⟩) (zy_pV (ci := 0) Z7 xL_ok xk_153 rfl rfl) rfl rfl hl10.1 rfl (lv_room (Nat.le_of_ble_eq_true rfl)) dX6_ruleWidth_26 ⟨Nat.le_of_ble_eq_true rfl, Nat.le_of_ble_eq_true rfl⟩) (fun H16 lo17 Z18 => ?_)
    clear Z7 hc14
    refine lv_iload_n hx hb dX6_ruleWidth_29 rfl (lv_at hl10 0 rfl) ?_
    exact zy_iret X hr hlk Z18 (zEnd hf15) dX6_ruleWidth_30
  · have hf19 := zYes hf4 b8
    clear hf4
    refine lv_ldc (v := (-1000000001)) hx hb hown (hts _ (zz_m 1 rfl)) dX6_ruleWidth_10 ?_
    exact zy_iret X hr hlk Z7 (zEnd hf19) dX6_ruleWidth_12
def f_X6_ruleGust (a1 : Int32) (σ : zg_S) : Option (Int32 × zg_S) := zbd (f_X6_within a1 0 100 σ) (fun (r1 : Int32) (σ2 : zg_S) => (if r1 = 0 then some ((-1000000001), σ2) else zlet (zg_up σ2 153 8 a1) (fun (σ12 : zg_S) => some (σ2 153 8, σ12))))
set_option maxHeartbeats 4000000 in
set_option maxRecDepth 100000 in
theorem c_X6_ruleGust (l : Launch) (D : va_G) (V : zz_V) (ad : Nat → Nat) (cA : Nat → ClassId) (a1 : Int32)  (σ : zg_S) (r0 : Int32) (σf : zg_S) (hf : f_X6_ruleGust a1 σ = some (r0, σf)) : zM_I l yX6_ruleGust wsX6_ruleGust 1 22 D V XL ad cA [.ref (ad 0), .int a1] σ r0 σf := by
  intro sz
  refine Met.ofW (cc := cX6_ruleGust) (maxL := 3) (ret := (some .int)) (by decide) rfl ?_
  intro p e s m args below meth c s₁ B hml hv
  obtain ⟨rfl, hC⟩ := hv
  have hx := B.exec
  have hb := B.bytes
  have hr := B.returns
  have hts := atoms_spec (ws := wsX6_ruleGust) B.pre
  have hown : s.vm.findClass RX6 = some m.cls := findClass_of_methodNamed B.named
  have hlk := B.notSynchronized
  have X : CallFix p m c cX6_ruleGust 3 s _ wsX6_ruleGust RX6 := ⟨hx, hb, hml, hown, hts⟩
  have Z := zz_enter hC
  generalize va_A (zg_W XL ad cA σ) sz = A at Z ⊢
  have hl := lv_entry ([.ref (ad 0), .int a1]) (n := 3) (Nat.le_of_ble_eq_true rfl)
  rw [lg_entry_eq]
  generalize (lg_sl ([.ref (ad 0), .int a1]) ++ List.replicate (3 - (lg_sl ([.ref (ad 0), .int a1])).length) Slot.unset).toArray = ls at hl ⊢
  have hl : lv_has ls 3 [(0, .ref (ad 0)), (1, .int a1)] := hl
  unfold f_X6_ruleGust at hf
  refine lv_iload_n hx hb dX6_ruleGust_0 rfl (lv_at hl 1 rfl) ?_
  refine lv_iconst (v := 0) hx hb dX6_ruleGust_1 (by decide) ?_
  refine lv_bipush (v := 100) hx hb dX6_ruleGust_2 (by decide) ?_
  obtain ⟨r1, σ2, hc3, hf4⟩ := zBd hf
  clear hf
  refine zy_ci (r0 := r1) (WS1 := zg_W XL ad cA σ2) (TYS1 := zg_T XL cA) Z (va_runS (As := [.int a1, .int 0, .int 100]) (rest := []) X (c_X6_within l D V ad cA a1 0 100 σ r1 σ2 hc3 s.heap.size) (va_cwS 3 hts gX6_ruleGust_X6_within rfl rfl rfl zh_X6_within ⟨Nat.le_of_ble_eq_true rfl, Nat.le_of_ble_eq_true rfl⟩) (zz_pS Z) rfl rfl hl.1 rfl (lv_room (Nat.le_of_ble_eq_true rfl)) dX6_ruleGust_4 ⟨Nat.le_of_ble_eq_true rfl, Nat.le_of_ble_eq_true rfl⟩) (fun H5 lo6 Z7 => ?_)
  clear Z hc3
  refine lv_if_ne (tgt := 13) hx hb dX6_ruleGust_7 (by decide) (fun b8 => ?_) (fun b8 => ?_)
  · have hf9 := zNot hf4 b8
    clear hf4
    refine lv_aload_n hx hb dX6_ruleGust_13 rfl (lv_at hl 0 rfl) ?_
    refine zy_get (v := .ref (ad 153)) X Z7 xL_ok xk_0 rfl rfl (fun w h => List.mem_cons_of_mem _ (List.mem_append_left _ (List.mem_append_right _ h))) 1 rfl (zz_m 2 rfl) rfl dX6_ruleGust_14 ?_
    refine zy_get (v := .int (σ2 153 8)) X Z7 xL_ok xk_153 rfl rfl (fun w h => List.mem_cons_of_mem _ (List.mem_append_right _ h)) 8 rfl (zz_m 3 rfl) rfl dX6_ruleGust_17 ?_
    refine lv_istore_n (lv' := [(2, .int (σ2 153 8)), (0, .ref (ad 0)), (1, .int a1)]) hx hb dX6_ruleGust_20 rfl hl (by decide) rfl (fun ls11 hl10 => ?_)
    clear hl
    refine lv_aload_n hx hb dX6_ruleGust_21 rfl (lv_at hl10 1 rfl) ?_
    refine zy_get (v := .ref (ad 153)) X Z7 xL_ok xk_0 rfl rfl (fun w h => List.mem_cons_of_mem _ (List.mem_append_left _ (List.mem_append_right _ h))) 1 rfl (zz_m 2 rfl) rfl dX6_ruleGust_22 ?_
    refine lv_iload_n hx hb dX6_ruleGust_25 rfl (lv_at hl10 2 rfl) ?_
    obtain ⟨σ12, es13, hf14⟩ := zLet hf9
    clear hf9
    refine zy_put (v := a1) (σ' := σ12) X Z7 xL_ok xk_153 rfl rfl (fun w h => List.mem_cons_of_mem _ (List.mem_append_right _ h)) tyX0 tyX0_ok nmX0 8 rfl (zz_m 3 rfl) rfl rfl rfl (fun _ => rfl) (fun _ => rfl) es13 dX6_ruleGust_26 (fun H15 lo16 Z17 => ?_)
    clear Z7 es13
    refine lv_iload_n hx hb dX6_ruleGust_29 rfl (lv_at hl10 0 rfl) ?_
    exact zy_iret X hr hlk Z17 (zEnd hf14) dX6_ruleGust_30
  · have hf18 := zYes hf4 b8
    clear hf4
    refine lv_ldc (v := (-1000000001)) hx hb hown (hts _ (zz_m 1 rfl)) dX6_ruleGust_10 ?_
    exact zy_iret X hr hlk Z7 (zEnd hf18) dX6_ruleGust_12
def f_X6_ruleMode (a1 : Int32) (σ : zg_S) : Option (Int32 × zg_S) := zbd (f_X6_within a1 0 2 σ) (fun (r1 : Int32) (σ2 : zg_S) => (if r1 = 0 then some ((-1000000001), σ2) else zlet (zg_up σ2 153 9 a1) (fun (σ12 : zg_S) => some (σ2 153 9, σ12))))
set_option maxHeartbeats 4000000 in
set_option maxRecDepth 100000 in
theorem c_X6_ruleMode (l : Launch) (D : va_G) (V : zz_V) (ad : Nat → Nat) (cA : Nat → ClassId) (a1 : Int32)  (σ : zg_S) (r0 : Int32) (σf : zg_S) (hf : f_X6_ruleMode a1 σ = some (r0, σf)) : zM_I l yX6_ruleMode wsX6_ruleMode 1 22 D V XL ad cA [.ref (ad 0), .int a1] σ r0 σf := by
  intro sz
  refine Met.ofW (cc := cX6_ruleMode) (maxL := 3) (ret := (some .int)) (by decide) rfl ?_
  intro p e s m args below meth c s₁ B hml hv
  obtain ⟨rfl, hC⟩ := hv
  have hx := B.exec
  have hb := B.bytes
  have hr := B.returns
  have hts := atoms_spec (ws := wsX6_ruleMode) B.pre
  have hown : s.vm.findClass RX6 = some m.cls := findClass_of_methodNamed B.named
  have hlk := B.notSynchronized
  have X : CallFix p m c cX6_ruleMode 3 s _ wsX6_ruleMode RX6 := ⟨hx, hb, hml, hown, hts⟩
  have Z := zz_enter hC
  generalize va_A (zg_W XL ad cA σ) sz = A at Z ⊢
  have hl := lv_entry ([.ref (ad 0), .int a1]) (n := 3) (Nat.le_of_ble_eq_true rfl)
  rw [lg_entry_eq]
  generalize (lg_sl ([.ref (ad 0), .int a1]) ++ List.replicate (3 - (lg_sl ([.ref (ad 0), .int a1])).length) Slot.unset).toArray = ls at hl ⊢
  have hl : lv_has ls 3 [(0, .ref (ad 0)), (1, .int a1)] := hl
  unfold f_X6_ruleMode at hf
  refine lv_iload_n hx hb dX6_ruleMode_0 rfl (lv_at hl 1 rfl) ?_
  refine lv_iconst (v := 0) hx hb dX6_ruleMode_1 (by decide) ?_
  refine lv_iconst (v := 2) hx hb dX6_ruleMode_2 (by decide) ?_
  obtain ⟨r1, σ2, hc3, hf4⟩ := zBd hf
  clear hf
  refine zy_ci (r0 := r1) (WS1 := zg_W XL ad cA σ2) (TYS1 := zg_T XL cA) Z (va_runS (As := [.int a1, .int 0, .int 2]) (rest := []) X (c_X6_within l D V ad cA a1 0 2 σ r1 σ2 hc3 s.heap.size) (va_cwS 3 hts gX6_ruleMode_X6_within rfl rfl rfl zh_X6_within ⟨Nat.le_of_ble_eq_true rfl, Nat.le_of_ble_eq_true rfl⟩) (zz_pS Z) rfl rfl hl.1 rfl (lv_room (Nat.le_of_ble_eq_true rfl)) dX6_ruleMode_3 ⟨Nat.le_of_ble_eq_true rfl, Nat.le_of_ble_eq_true rfl⟩) (fun H5 lo6 Z7 => ?_)
  clear Z hc3
  refine lv_if_ne (tgt := 12) hx hb dX6_ruleMode_6 (by decide) (fun b8 => ?_) (fun b8 => ?_)
  · have hf9 := zNot hf4 b8
    clear hf4
    refine lv_aload_n hx hb dX6_ruleMode_12 rfl (lv_at hl 0 rfl) ?_
    refine zy_get (v := .ref (ad 153)) X Z7 xL_ok xk_0 rfl rfl (fun w h => List.mem_cons_of_mem _ (List.mem_append_left _ (List.mem_append_right _ h))) 1 rfl (zz_m 2 rfl) rfl dX6_ruleMode_13 ?_
    refine zy_get (v := .int (σ2 153 9)) X Z7 xL_ok xk_153 rfl rfl (fun w h => List.mem_cons_of_mem _ (List.mem_append_right _ h)) 9 rfl (zz_m 3 rfl) rfl dX6_ruleMode_16 ?_
    refine lv_istore_n (lv' := [(2, .int (σ2 153 9)), (0, .ref (ad 0)), (1, .int a1)]) hx hb dX6_ruleMode_19 rfl hl (by decide) rfl (fun ls11 hl10 => ?_)
    clear hl
    refine lv_aload_n hx hb dX6_ruleMode_20 rfl (lv_at hl10 1 rfl) ?_
    refine zy_get (v := .ref (ad 153)) X Z7 xL_ok xk_0 rfl rfl (fun w h => List.mem_cons_of_mem _ (List.mem_append_left _ (List.mem_append_right _ h))) 1 rfl (zz_m 2 rfl) rfl dX6_ruleMode_21 ?_
    refine lv_iload_n hx hb dX6_ruleMode_24 rfl (lv_at hl10 2 rfl) ?_
    obtain ⟨σ12, es13, hf14⟩ := zLet hf9
    clear hf9
    refine zy_put (v := a1) (σ' := σ12) X Z7 xL_ok xk_153 rfl rfl (fun w h => List.mem_cons_of_mem _ (List.mem_append_right _ h)) tyX0 tyX0_ok nmX0 9 rfl (zz_m 3 rfl) rfl rfl rfl (fun _ => rfl) (fun _ => rfl) es13 dX6_ruleMode_25 (fun H15 lo16 Z17 => ?_)
    clear Z7 es13
    refine lv_iload_n hx hb dX6_ruleMode_28 rfl (lv_at hl10 0 rfl) ?_
    exact zy_iret X hr hlk Z17 (zEnd hf14) dX6_ruleMode_29
  · have hf18 := zYes hf4 b8
    clear hf4
    refine lv_ldc (v := (-1000000001)) hx hb hown (hts _ (zz_m 1 rfl)) dX6_ruleMode_9 ?_
    exact zy_iret X hr hlk Z7 (zEnd hf18) dX6_ruleMode_11
def f_X6_rule (a1 : Int32) (a2 : Int32) (σ : zg_S) : Option (Int32 × zg_S) := (if a1 = 0 then zbd (f_X6_ruleFirst a2 σ) (fun (r3 : Int32) (σ4 : zg_S) => some (r3, σ4)) else (if a1 = 1 then zbd (f_X6_ruleWidth a2 σ) (fun (r13 : Int32) (σ14 : zg_S) => some (r13, σ14)) else (if a1 = 2 then zbd (f_X6_ruleGust a2 σ) (fun (r23 : Int32) (σ24 : zg_S) => some (r23, σ24)) else (if a1 = 3 then zbd (f_X6_ruleMode a2 σ) (fun (r33 : Int32) (σ34 : zg_S) => some (r33, σ34)) else some ((-1000000001), σ)))))
set_option maxHeartbeats 4000000 in
set_option maxRecDepth 100000 in
theorem c_X6_rule (l : Launch) (D : va_G) (V : zz_V) (ad : Nat → Nat) (cA : Nat → ClassId) (a1 : Int32) (a2 : Int32)  (σ : zg_S) (r0 : Int32) (σf : zg_S) (hf : f_X6_rule a1 a2 σ = some (r0, σf)) : zM_I l yX6_rule wsX6_rule 4 89 D V XL ad cA [.ref (ad 0), .int a1, .int a2] σ r0 σf := by
  intro sz
  refine Met.ofW (cc := cX6_rule) (maxL := 3) (ret := (some .int)) (by decide) rfl ?_
  intro p e s m args below meth c s₁ B hml hv
  obtain ⟨rfl, hC⟩ := hv
  have hx := B.exec
  have hb := B.bytes
  have hr := B.returns
  have hts := atoms_spec (ws := wsX6_rule) B.pre
  have hown : s.vm.findClass RX6 = some m.cls := findClass_of_methodNamed B.named
  have hlk := B.notSynchronized
  have X : CallFix p m c cX6_rule 3 s _ wsX6_rule RX6 := ⟨hx, hb, hml, hown, hts⟩
  have Z := zz_enter hC
  generalize va_A (zg_W XL ad cA σ) sz = A at Z ⊢
  have hl := lv_entry ([.ref (ad 0), .int a1, .int a2]) (n := 3) (Nat.le_of_ble_eq_true rfl)
  rw [lg_entry_eq]
  generalize (lg_sl ([.ref (ad 0), .int a1, .int a2]) ++ List.replicate (3 - (lg_sl ([.ref (ad 0), .int a1, .int a2])).length) Slot.unset).toArray = ls at hl ⊢
  have hl : lv_has ls 3 [(0, .ref (ad 0)), (1, .int a1), (2, .int a2)] := hl
  unfold f_X6_rule at hf
  refine lv_iload_n hx hb dX6_rule_0 rfl (lv_at hl 1 rfl) ?_
  by_cases w1 : a1 = 0
  · have hf2 := zYes hf w1
    clear hf
    refine zz_v w1 ?_
    refine lv_tableIn (x := 0) (off := 31) (tgt := 32) hx hb dX6_rule_1 (by decide) (by decide) rfl (by decide) ?_
    refine lv_aload_n hx hb dX6_rule_32 rfl (lv_at hl 0 rfl) ?_
    refine lv_iload_n hx hb dX6_rule_33 rfl (lv_at hl 2 rfl) ?_
    obtain ⟨r3, σ4, hc5, hf6⟩ := zBd hf2
    clear hf2
    refine zy_ci (r0 := r3) (WS1 := zg_W XL ad cA σ4) (TYS1 := zg_T XL cA) Z (va_runV (As := [.int a2]) (rest := []) X (c_X6_ruleFirst l D V ad cA a2 σ r3 σ4 hc5 s.heap.size) (cwV 1 hts gX6_rule_X6_ruleFirst rfl rfl rfl ⟨rfl, zh_X6_ruleFirst⟩ ⟨Nat.le_of_ble_eq_true rfl, Nat.le_of_ble_eq_true rfl⟩) (zy_pV (ci := 6) Z xL_ok xk_0 rfl rfl) rfl rfl hl.1 rfl (lv_room (Nat.le_of_ble_eq_true rfl)) dX6_rule_34 ⟨Nat.le_of_ble_eq_true rfl, Nat.le_of_ble_eq_true rfl⟩) (fun H7 lo8 Z9 => ?_)
    clear Z hc5
    exact zy_iret X hr hlk Z9 (zEnd hf6) dX6_rule_37
  · have hf10 := zNot hf w1
    clear hf
    by_cases w11 : a1 = 1
    · have hf12 := zYes hf10 w11
      clear hf10
      refine zz_v w11 ?_
      refine lv_tableIn (x := 1) (off := 37) (tgt := 38) hx hb dX6_rule_1 (by decide) (by decide) rfl (by decide) ?_
      refine lv_aload_n hx hb dX6_rule_38 rfl (lv_at hl 0 rfl) ?_
      refine lv_iload_n hx hb dX6_rule_39 rfl (lv_at hl 2 rfl) ?_
      obtain ⟨r13, σ14, hc15, hf16⟩ := zBd hf12
      clear hf12
      refine zy_ci (r0 := r13) (WS1 := zg_W XL ad cA σ14) (TYS1 := zg_T XL cA) Z (va_runV (As := [.int a2]) (rest := []) X (c_X6_ruleWidth l D V ad cA a2 σ r13 σ14 hc15 s.heap.size) (cwV 1 hts gX6_rule_X6_ruleWidth rfl rfl rfl ⟨rfl, zh_X6_ruleWidth⟩ ⟨Nat.le_of_ble_eq_true rfl, Nat.le_of_ble_eq_true rfl⟩) (zy_pV (ci := 6) Z xL_ok xk_0 rfl rfl) rfl rfl hl.1 rfl (lv_room (Nat.le_of_ble_eq_true rfl)) dX6_rule_40 ⟨Nat.le_of_ble_eq_true rfl, Nat.le_of_ble_eq_true rfl⟩) (fun H17 lo18 Z19 => ?_)
      clear Z hc15
      exact zy_iret X hr hlk Z19 (zEnd hf16) dX6_rule_43
    · have hf20 := zNot hf10 w11
      clear hf10
      by_cases w21 : a1 = 2
      · have hf22 := zYes hf20 w21
        clear hf20
        refine zz_v w21 ?_
        refine lv_tableIn (x := 2) (off := 43) (tgt := 44) hx hb dX6_rule_1 (by decide) (by decide) rfl (by decide) ?_
        refine lv_aload_n hx hb dX6_rule_44 rfl (lv_at hl 0 rfl) ?_
        refine lv_iload_n hx hb dX6_rule_45 rfl (lv_at hl 2 rfl) ?_
        obtain ⟨r23, σ24, hc25, hf26⟩ := zBd hf22
        clear hf22
        refine zy_ci (r0 := r23) (WS1 := zg_W XL ad cA σ24) (TYS1 := zg_T XL cA) Z (va_runV (As := [.int a2]) (rest := []) X (c_X6_ruleGust l D V ad cA a2 σ r23 σ24 hc25 s.heap.size) (cwV 1 hts gX6_rule_X6_ruleGust rfl rfl rfl ⟨rfl, zh_X6_ruleGust⟩ ⟨Nat.le_of_ble_eq_true rfl, Nat.le_of_ble_eq_true rfl⟩) (zy_pV (ci := 6) Z xL_ok xk_0 rfl rfl) rfl rfl hl.1 rfl (lv_room (Nat.le_of_ble_eq_true rfl)) dX6_rule_46 ⟨Nat.le_of_ble_eq_true rfl, Nat.le_of_ble_eq_true rfl⟩) (fun H27 lo28 Z29 => ?_)
        clear Z hc25
        exact zy_iret X hr hlk Z29 (zEnd hf26) dX6_rule_49
      · have hf30 := zNot hf20 w21
        clear hf20
        by_cases w31 : a1 = 3
        · have hf32 := zYes hf30 w31
          clear hf30
          refine zz_v w31 ?_
          refine lv_tableIn (x := 3) (off := 49) (tgt := 50) hx hb dX6_rule_1 (by decide) (by decide) rfl (by decide) ?_
          refine lv_aload_n hx hb dX6_rule_50 rfl (lv_at hl 0 rfl) ?_
          refine lv_iload_n hx hb dX6_rule_51 rfl (lv_at hl 2 rfl) ?_
          obtain ⟨r33, σ34, hc35, hf36⟩ := zBd hf32
          clear hf32
          refine zy_ci (r0 := r33) (WS1 := zg_W XL ad cA σ34) (TYS1 := zg_T XL cA) Z (va_runV (As := [.int a2]) (rest := []) X (c_X6_ruleMode l D V ad cA a2 σ r33 σ34 hc35 s.heap.size) (cwV 1 hts gX6_rule_X6_ruleMode rfl rfl rfl ⟨rfl, zh_X6_ruleMode⟩ ⟨Nat.le_of_ble_eq_true rfl, Nat.le_of_ble_eq_true rfl⟩) (zy_pV (ci := 6) Z xL_ok xk_0 rfl rfl) rfl rfl hl.1 rfl (lv_room (Nat.le_of_ble_eq_true rfl)) dX6_rule_52 ⟨Nat.le_of_ble_eq_true rfl, Nat.le_of_ble_eq_true rfl⟩) (fun H37 lo38 Z39 => ?_)
          clear Z hc35
          exact zy_iret X hr hlk Z39 (zEnd hf36) dX6_rule_55
        · have hf40 := zNot hf30 w31
          clear hf30
          have n41 := zNe (k := 0) (y := 0) (by decide) w1
          have n42 := zNe (k := 1) (y := 1) (by decide) w11
          have n43 := zNe (k := 2) (y := 2) (by decide) w21
          have n44 := zNe (k := 3) (y := 3) (by decide) w31
          refine lv_tableOut (tgt := 56) hx hb dX6_rule_1 (by omega) (by decide) ?_
          refine lv_ldc (v := (-1000000001)) hx hb hown (hts _ (zz_m 1 rfl)) dX6_rule_56 ?_
          exact zy_iret X hr hlk Z (zEnd hf40) dX6_rule_58
def f_X6_seed (a1 : Int32) (σ : zg_S) : Option (Int32 × zg_S) := zlet (zg_up σ 153 13 a1) (fun (σ3 : zg_S) => some (σ 153 13, σ3))
set_option maxHeartbeats 4000000 in
set_option maxRecDepth 100000 in
theorem c_X6_seed (l : Launch) (D : va_G) (V : zz_V) (ad : Nat → Nat) (cA : Nat → ClassId) (a1 : Int32)  (σ : zg_S) (r0 : Int32) (σf : zg_S) (hf : f_X6_seed a1 σ = some (r0, σf)) : zM_I l yX6_seed wsX6_seed 0 0 D V XL ad cA [.ref (ad 0), .int a1] σ r0 σf := by
  intro sz
  refine Met.ofW (cc := cX6_seed) (maxL := 3) (ret := (some .int)) (by decide) rfl ?_
  intro p e s m args below meth c s₁ B hml hv
  obtain ⟨rfl, hC⟩ := hv
  have hx := B.exec
  have hb := B.bytes
  have hr := B.returns
  have hts := atoms_spec (ws := wsX6_seed) B.pre
  have hown : s.vm.findClass RX6 = some m.cls := findClass_of_methodNamed B.named
  have hlk := B.notSynchronized
  have X : CallFix p m c cX6_seed 3 s _ wsX6_seed RX6 := ⟨hx, hb, hml, hown, hts⟩
  have Z := zz_enter hC
  generalize va_A (zg_W XL ad cA σ) sz = A at Z ⊢
  have hl := lv_entry ([.ref (ad 0), .int a1]) (n := 3) (Nat.le_of_ble_eq_true rfl)
  rw [lg_entry_eq]
  generalize (lg_sl ([.ref (ad 0), .int a1]) ++ List.replicate (3 - (lg_sl ([.ref (ad 0), .int a1])).length) Slot.unset).toArray = ls at hl ⊢
  have hl : lv_has ls 3 [(0, .ref (ad 0)), (1, .int a1)] := hl
  unfold f_X6_seed at hf
  refine lv_aload_n hx hb dX6_seed_0 rfl (lv_at hl 0 rfl) ?_
  refine zy_get (v := .ref (ad 153)) X Z xL_ok xk_0 rfl rfl (fun w h => List.mem_cons_of_mem _ (List.mem_append_left _ (List.mem_append_right _ h))) 1 rfl (zz_m 1 rfl) rfl dX6_seed_1 ?_
  refine zy_get (v := .int (σ 153 13)) X Z xL_ok xk_153 rfl rfl (fun w h => List.mem_cons_of_mem _ (List.mem_append_right _ h)) 13 rfl (zz_m 2 rfl) rfl dX6_seed_4 ?_
  refine lv_istore_n (lv' := [(2, .int (σ 153 13)), (0, .ref (ad 0)), (1, .int a1)]) hx hb dX6_seed_7 rfl hl (by decide) rfl (fun ls2 hl1 => ?_)
  clear hl
  refine lv_aload_n hx hb dX6_seed_8 rfl (lv_at hl1 1 rfl) ?_
  refine zy_get (v := .ref (ad 153)) X Z xL_ok xk_0 rfl rfl (fun w h => List.mem_cons_of_mem _ (List.mem_append_left _ (List.mem_append_right _ h))) 1 rfl (zz_m 1 rfl) rfl dX6_seed_9 ?_
  refine lv_iload_n hx hb dX6_seed_12 rfl (lv_at hl1 2 rfl) ?_
  obtain ⟨σ3, es4, hf5⟩ := zLet hf
  clear hf
  refine zy_put (v := a1) (σ' := σ3) X Z xL_ok xk_153 rfl rfl (fun w h => List.mem_cons_of_mem _ (List.mem_append_right _ h)) tyX0 tyX0_ok nmX0 13 rfl (zz_m 2 rfl) rfl rfl rfl (fun _ => rfl) (fun _ => rfl) es4 dX6_seed_13 (fun H6 lo7 Z8 => ?_)
  clear Z es4
  refine lv_iload_n hx hb dX6_seed_16 rfl (lv_at hl1 0 rfl) ?_
  exact zy_iret X hr hlk Z8 (zEnd hf5) dX6_seed_17
def f_X6_setPlace (q0 : Nat) (a1 : Int32) (σ : zg_S) : Option (Int32 × zg_S) := zbd (f_X6_within a1 0 11 σ) (fun (r1 : Int32) (σ2 : zg_S) => (if r1 = 0 then some ((-1000000001), σ2) else zlet (zg_up σ2 q0 1 a1) (fun (σ12 : zg_S) => some (σ2 q0 1, σ12))))
set_option maxHeartbeats 4000000 in
set_option maxRecDepth 100000 in
theorem c_X6_setPlace (l : Launch) (D : va_G) (V : zz_V) (ad : Nat → Nat) (cA : Nat → ClassId) (q0 : Nat) (a1 : Int32) (hq0 : XL.2.1 q0 = 4) (σ : zg_S) (r0 : Int32) (σf : zg_S) (hf : f_X6_setPlace q0 a1 σ = some (r0, σf)) : zM_I l yX6_setPlace wsX6_setPlace 1 22 D V XL ad cA [.ref (ad q0), .int a1] σ r0 σf := by
  intro sz
  refine Met.ofW (cc := cX6_setPlace) (maxL := 3) (ret := (some .int)) (by decide) rfl ?_
  intro p e s m args below meth c s₁ B hml hv
  obtain ⟨rfl, hC⟩ := hv
  have hx := B.exec
  have hb := B.bytes
  have hr := B.returns
  have hts := atoms_spec (ws := wsX6_setPlace) B.pre
  have hown : s.vm.findClass RX6 = some m.cls := findClass_of_methodNamed B.named
  have hlk := B.notSynchronized
  have X : CallFix p m c cX6_setPlace 3 s _ wsX6_setPlace RX6 := ⟨hx, hb, hml, hown, hts⟩
  have Z := zz_enter hC
  generalize va_A (zg_W XL ad cA σ) sz = A at Z ⊢
  have hl := lv_entry ([.ref (ad q0), .int a1]) (n := 3) (Nat.le_of_ble_eq_true rfl)
  rw [lg_entry_eq]
  generalize (lg_sl ([.ref (ad q0), .int a1]) ++ List.replicate (3 - (lg_sl ([.ref (ad q0), .int a1])).length) Slot.unset).toArray = ls at hl ⊢
  have hl : lv_has ls 3 [(0, .ref (ad q0)), (1, .int a1)] := hl
  unfold f_X6_setPlace at hf
  refine lv_iload_n hx hb dX6_setPlace_0 rfl (lv_at hl 1 rfl) ?_
  refine lv_iconst (v := 0) hx hb dX6_setPlace_1 (by decide) ?_
  refine lv_bipush (v := 11) hx hb dX6_setPlace_2 (by decide) ?_
  obtain ⟨r1, σ2, hc3, hf4⟩ := zBd hf
  clear hf
  refine zy_ci (r0 := r1) (WS1 := zg_W XL ad cA σ2) (TYS1 := zg_T XL cA) Z (va_runS (As := [.int a1, .int 0, .int 11]) (rest := []) X (c_X6_within l D V ad cA a1 0 11 σ r1 σ2 hc3 s.heap.size) (va_cwS 3 hts gX6_setPlace_X6_within rfl rfl rfl zh_X6_within ⟨Nat.le_of_ble_eq_true rfl, Nat.le_of_ble_eq_true rfl⟩) (zz_pS Z) rfl rfl hl.1 rfl (lv_room (Nat.le_of_ble_eq_true rfl)) dX6_setPlace_4 ⟨Nat.le_of_ble_eq_true rfl, Nat.le_of_ble_eq_true rfl⟩) (fun H5 lo6 Z7 => ?_)
  clear Z hc3
  refine lv_if_ne (tgt := 13) hx hb dX6_setPlace_7 (by decide) (fun b8 => ?_) (fun b8 => ?_)
  · have hf9 := zNot hf4 b8
    clear hf4
    refine lv_aload_n hx hb dX6_setPlace_13 rfl (lv_at hl 0 rfl) ?_
    refine zy_get (v := .int (σ2 q0 1)) X Z7 xL_ok hq0 rfl rfl (fun w h => List.mem_cons_of_mem _ (List.mem_append_right _ h)) 1 rfl (zz_m 2 rfl) rfl dX6_setPlace_14 ?_
    refine lv_istore_n (lv' := [(2, .int (σ2 q0 1)), (0, .ref (ad q0)), (1, .int a1)]) hx hb dX6_setPlace_17 rfl hl (by decide) rfl (fun ls11 hl10 => ?_)
    clear hl
    refine lv_aload_n hx hb dX6_setPlace_18 rfl (lv_at hl10 1 rfl) ?_
    refine lv_iload_n hx hb dX6_setPlace_19 rfl (lv_at hl10 2 rfl) ?_
    obtain ⟨σ12, es13, hf14⟩ := zLet hf9
    clear hf9
    refine zy_put (v := a1) (σ' := σ12) X Z7 xL_ok hq0 rfl rfl (fun w h => List.mem_cons_of_mem _ (List.mem_append_right _ h)) tyX4 tyX4_ok nmX4 1 rfl (zz_m 2 rfl) rfl rfl rfl (fun _ => rfl) (fun _ => rfl) es13 dX6_setPlace_20 (fun H15 lo16 Z17 => ?_)
    clear Z7 es13
    refine lv_iload_n hx hb dX6_setPlace_23 rfl (lv_at hl10 0 rfl) ?_
    exact zy_iret X hr hlk Z17 (zEnd hf14) dX6_setPlace_24
  · have hf18 := zYes hf4 b8
    clear hf4
    refine lv_ldc (v := (-1000000001)) hx hb hown (hts _ (zz_m 1 rfl)) dX6_setPlace_10 ?_
    exact zy_iret X hr hlk Z7 (zEnd hf18) dX6_setPlace_12
def f_X6_setGoods (q0 : Nat) (a1 : Int32) (σ : zg_S) : Option (Int32 × zg_S) := zbd (f_X6_within a1 0 999 σ) (fun (r1 : Int32) (σ2 : zg_S) => (if r1 = 0 then some ((-1000000001), σ2) else zlet (zg_up σ2 q0 2 a1) (fun (σ12 : zg_S) => some (σ2 q0 2, σ12))))
set_option maxHeartbeats 4000000 in
set_option maxRecDepth 100000 in
theorem c_X6_setGoods (l : Launch) (D : va_G) (V : zz_V) (ad : Nat → Nat) (cA : Nat → ClassId) (q0 : Nat) (a1 : Int32) (hq0 : XL.2.1 q0 = 4) (σ : zg_S) (r0 : Int32) (σf : zg_S) (hf : f_X6_setGoods q0 a1 σ = some (r0, σf)) : zM_I l yX6_setGoods wsX6_setGoods 1 22 D V XL ad cA [.ref (ad q0), .int a1] σ r0 σf := by
  intro sz
  refine Met.ofW (cc := cX6_setGoods) (maxL := 3) (ret := (some .int)) (by decide) rfl ?_
  intro p e s m args below meth c s₁ B hml hv
  obtain ⟨rfl, hC⟩ := hv
  have hx := B.exec
  have hb := B.bytes
  have hr := B.returns
  have hts := atoms_spec (ws := wsX6_setGoods) B.pre
  have hown : s.vm.findClass RX6 = some m.cls := findClass_of_methodNamed B.named
  have hlk := B.notSynchronized
  have X : CallFix p m c cX6_setGoods 3 s _ wsX6_setGoods RX6 := ⟨hx, hb, hml, hown, hts⟩
  have Z := zz_enter hC
  generalize va_A (zg_W XL ad cA σ) sz = A at Z ⊢
  have hl := lv_entry ([.ref (ad q0), .int a1]) (n := 3) (Nat.le_of_ble_eq_true rfl)
  rw [lg_entry_eq]
  generalize (lg_sl ([.ref (ad q0), .int a1]) ++ List.replicate (3 - (lg_sl ([.ref (ad q0), .int a1])).length) Slot.unset).toArray = ls at hl ⊢
  have hl : lv_has ls 3 [(0, .ref (ad q0)), (1, .int a1)] := hl
  unfold f_X6_setGoods at hf
  refine lv_iload_n hx hb dX6_setGoods_0 rfl (lv_at hl 1 rfl) ?_
  refine lv_iconst (v := 0) hx hb dX6_setGoods_1 (by decide) ?_
  refine lv_sipush (v := 999) hx hb dX6_setGoods_2 (by decide) ?_
  obtain ⟨r1, σ2, hc3, hf4⟩ := zBd hf
  clear hf
  refine zy_ci (r0 := r1) (WS1 := zg_W XL ad cA σ2) (TYS1 := zg_T XL cA) Z (va_runS (As := [.int a1, .int 0, .int 999]) (rest := []) X (c_X6_within l D V ad cA a1 0 999 σ r1 σ2 hc3 s.heap.size) (va_cwS 3 hts gX6_setGoods_X6_within rfl rfl rfl zh_X6_within ⟨Nat.le_of_ble_eq_true rfl, Nat.le_of_ble_eq_true rfl⟩) (zz_pS Z) rfl rfl hl.1 rfl (lv_room (Nat.le_of_ble_eq_true rfl)) dX6_setGoods_5 ⟨Nat.le_of_ble_eq_true rfl, Nat.le_of_ble_eq_true rfl⟩) (fun H5 lo6 Z7 => ?_)
  clear Z hc3
  refine lv_if_ne (tgt := 14) hx hb dX6_setGoods_8 (by decide) (fun b8 => ?_) (fun b8 => ?_)
  · have hf9 := zNot hf4 b8
    clear hf4
    refine lv_aload_n hx hb dX6_setGoods_14 rfl (lv_at hl 0 rfl) ?_
    refine zy_get (v := .int (σ2 q0 2)) X Z7 xL_ok hq0 rfl rfl (fun w h => List.mem_cons_of_mem _ (List.mem_append_right _ h)) 2 rfl (zz_m 2 rfl) rfl dX6_setGoods_15 ?_
    refine lv_istore_n (lv' := [(2, .int (σ2 q0 2)), (0, .ref (ad q0)), (1, .int a1)]) hx hb dX6_setGoods_18 rfl hl (by decide) rfl (fun ls11 hl10 => ?_)
    clear hl
    refine lv_aload_n hx hb dX6_setGoods_19 rfl (lv_at hl10 1 rfl) ?_
    refine lv_iload_n hx hb dX6_setGoods_20 rfl (lv_at hl10 2 rfl) ?_
    obtain ⟨σ12, es13, hf14⟩ := zLet hf9
    clear hf9
    refine zy_put (v := a1) (σ' := σ12) X Z7 xL_ok hq0 rfl rfl (fun w h => List.mem_cons_of_mem _ (List.mem_append_right _ h)) tyX4 tyX4_ok nmX4 2 rfl (zz_m 2 rfl) rfl rfl rfl (fun _ => rfl) (fun _ => rfl) es13 dX6_setGoods_21 (fun H15 lo16 Z17 => ?_)
    clear Z7 es13
    refine lv_iload_n hx hb dX6_setGoods_24 rfl (lv_at hl10 0 rfl) ?_
    exact zy_iret X hr hlk Z17 (zEnd hf14) dX6_setGoods_25
  · have hf18 := zYes hf4 b8
    clear hf4
    refine lv_ldc (v := (-1000000001)) hx hb hown (hts _ (zz_m 1 rfl)) dX6_setGoods_11 ?_
    exact zy_iret X hr hlk Z7 (zEnd hf18) dX6_setGoods_13
def f_X6_setPay (q0 : Nat) (a1 : Int32) (σ : zg_S) : Option (Int32 × zg_S) := zbd (f_X6_within a1 0 99 σ) (fun (r1 : Int32) (σ2 : zg_S) => (if r1 = 0 then some ((-1000000001), σ2) else zlet (zg_up σ2 q0 3 a1) (fun (σ12 : zg_S) => some (σ2 q0 3, σ12))))
set_option maxHeartbeats 4000000 in
set_option maxRecDepth 100000 in
theorem c_X6_setPay (l : Launch) (D : va_G) (V : zz_V) (ad : Nat → Nat) (cA : Nat → ClassId) (q0 : Nat) (a1 : Int32) (hq0 : XL.2.1 q0 = 4) (σ : zg_S) (r0 : Int32) (σf : zg_S) (hf : f_X6_setPay q0 a1 σ = some (r0, σf)) : zM_I l yX6_setPay wsX6_setPay 1 22 D V XL ad cA [.ref (ad q0), .int a1] σ r0 σf := by
  intro sz
  refine Met.ofW (cc := cX6_setPay) (maxL := 3) (ret := (some .int)) (by decide) rfl ?_
  intro p e s m args below meth c s₁ B hml hv
  obtain ⟨rfl, hC⟩ := hv
  have hx := B.exec
  have hb := B.bytes
  have hr := B.returns
  have hts := atoms_spec (ws := wsX6_setPay) B.pre
  have hown : s.vm.findClass RX6 = some m.cls := findClass_of_methodNamed B.named
  have hlk := B.notSynchronized
  have X : CallFix p m c cX6_setPay 3 s _ wsX6_setPay RX6 := ⟨hx, hb, hml, hown, hts⟩
  have Z := zz_enter hC
  generalize va_A (zg_W XL ad cA σ) sz = A at Z ⊢
  have hl := lv_entry ([.ref (ad q0), .int a1]) (n := 3) (Nat.le_of_ble_eq_true rfl)
  rw [lg_entry_eq]
  generalize (lg_sl ([.ref (ad q0), .int a1]) ++ List.replicate (3 - (lg_sl ([.ref (ad q0), .int a1])).length) Slot.unset).toArray = ls at hl ⊢
  have hl : lv_has ls 3 [(0, .ref (ad q0)), (1, .int a1)] := hl
  unfold f_X6_setPay at hf
  refine lv_iload_n hx hb dX6_setPay_0 rfl (lv_at hl 1 rfl) ?_
  refine lv_iconst (v := 0) hx hb dX6_setPay_1 (by decide) ?_
  refine lv_bipush (v := 99) hx hb dX6_setPay_2 (by decide) ?_
  obtain ⟨r1, σ2, hc3, hf4⟩ := zBd hf
  clear hf
  refine zy_ci (r0 := r1) (WS1 := zg_W XL ad cA σ2) (TYS1 := zg_T XL cA) Z (va_runS (As := [.int a1, .int 0, .int 99]) (rest := []) X (c_X6_within l D V ad cA a1 0 99 σ r1 σ2 hc3 s.heap.size) (va_cwS 3 hts gX6_setPay_X6_within rfl rfl rfl zh_X6_within ⟨Nat.le_of_ble_eq_true rfl, Nat.le_of_ble_eq_true rfl⟩) (zz_pS Z) rfl rfl hl.1 rfl (lv_room (Nat.le_of_ble_eq_true rfl)) dX6_setPay_4 ⟨Nat.le_of_ble_eq_true rfl, Nat.le_of_ble_eq_true rfl⟩) (fun H5 lo6 Z7 => ?_)
  clear Z hc3
  refine lv_if_ne (tgt := 13) hx hb dX6_setPay_7 (by decide) (fun b8 => ?_) (fun b8 => ?_)
  · have hf9 := zNot hf4 b8
    clear hf4
    refine lv_aload_n hx hb dX6_setPay_13 rfl (lv_at hl 0 rfl) ?_
    refine zy_get (v := .int (σ2 q0 3)) X Z7 xL_ok hq0 rfl rfl (fun w h => List.mem_cons_of_mem _ (List.mem_append_right _ h)) 3 rfl (zz_m 2 rfl) rfl dX6_setPay_14 ?_
    refine lv_istore_n (lv' := [(2, .int (σ2 q0 3)), (0, .ref (ad q0)), (1, .int a1)]) hx hb dX6_setPay_17 rfl hl (by decide) rfl (fun ls11 hl10 => ?_)
    clear hl
    refine lv_aload_n hx hb dX6_setPay_18 rfl (lv_at hl10 1 rfl) ?_
    refine lv_iload_n hx hb dX6_setPay_19 rfl (lv_at hl10 2 rfl) ?_
    obtain ⟨σ12, es13, hf14⟩ := zLet hf9
    clear hf9
    refine zy_put (v := a1) (σ' := σ12) X Z7 xL_ok hq0 rfl rfl (fun w h => List.mem_cons_of_mem _ (List.mem_append_right _ h)) tyX4 tyX4_ok nmX4 3 rfl (zz_m 2 rfl) rfl rfl rfl (fun _ => rfl) (fun _ => rfl) es13 dX6_setPay_20 (fun H15 lo16 Z17 => ?_)
    clear Z7 es13
    refine lv_iload_n hx hb dX6_setPay_23 rfl (lv_at hl10 0 rfl) ?_
    exact zy_iret X hr hlk Z17 (zEnd hf14) dX6_setPay_24
  · have hf18 := zYes hf4 b8
    clear hf4
    refine lv_ldc (v := (-1000000001)) hx hb hown (hts _ (zz_m 1 rfl)) dX6_setPay_10 ?_
    exact zy_iret X hr hlk Z7 (zEnd hf18) dX6_setPay_12
def f_X6_set (a1 : Int32) (a2 : Int32) (a3 : Int32) (σ : zg_S) : Option (Int32 × zg_S) := zbd (f_X6_isStall a1 σ) (fun (r1 : Int32) (σ2 : zg_S) => (if r1 = 0 then some ((-1000000001), σ2) else (if a2 = 1 then (if zin a1 9 = true then zbd (f_X6_setPlace (154 + 2 + (Int32.toNatClampNeg a1)) a3 σ2) (fun (r15 : Int32) (σ16 : zg_S) => some (r15, σ16)) else none) else (if a2 = 2 then (if zin a1 9 = true then zbd (f_X6_setGoods (154 + 2 + (Int32.toNatClampNeg a1)) a3 σ2) (fun (r28 : Int32) (σ29 : zg_S) => some (r28, σ29)) else none) else (if a2 = 3 then (if zin a1 9 = true then zbd (f_X6_setPay (154 + 2 + (Int32.toNatClampNeg a1)) a3 σ2) (fun (r41 : Int32) (σ42 : zg_S) => some (r41, σ42)) else none) else some ((-1000000001), σ2))))))
set_option maxHeartbeats 4000000 in
set_option maxRecDepth 100000 in
theorem c_X6_set (l : Launch) (D : va_G) (V : zz_V) (ad : Nat → Nat) (cA : Nat → ClassId) (a1 : Int32) (a2 : Int32) (a3 : Int32)  (σ : zg_S) (r0 : Int32) (σf : zg_S) (hf : f_X6_set a1 a2 a3 σ = some (r0, σf)) : zM_I l yX6_set wsX6_set 2 44 D V XL ad cA [.ref (ad 0), .int a1, .int a2, .int a3] σ r0 σf := by
  intro sz
  refine Met.ofW (cc := cX6_set) (maxL := 4) (ret := (some .int)) (by decide) rfl ?_
  intro p e s m args below meth c s₁ B hml hv
  obtain ⟨rfl, hC⟩ := hv
  have hx := B.exec
  have hb := B.bytes
  have hr := B.returns
  have hts := atoms_spec (ws := wsX6_set) B.pre
  have hown : s.vm.findClass RX6 = some m.cls := findClass_of_methodNamed B.named
  have hlk := B.notSynchronized
  have X : CallFix p m c cX6_set 4 s _ wsX6_set RX6 := ⟨hx, hb, hml, hown, hts⟩
  have Z := zz_enter hC
  generalize va_A (zg_W XL ad cA σ) sz = A at Z ⊢
  have hl := lv_entry ([.ref (ad 0), .int a1, .int a2, .int a3]) (n := 4) (Nat.le_of_ble_eq_true rfl)
  rw [lg_entry_eq]
  generalize (lg_sl ([.ref (ad 0), .int a1, .int a2, .int a3]) ++ List.replicate (4 - (lg_sl ([.ref (ad 0), .int a1, .int a2, .int a3])).length) Slot.unset).toArray = ls at hl ⊢
  have hl : lv_has ls 4 [(0, .ref (ad 0)), (1, .int a1), (2, .int a2), (3, .int a3)] := hl
  unfold f_X6_set at hf
  refine lv_aload_n hx hb dX6_set_0 rfl (lv_at hl 0 rfl) ?_
  refine lv_iload_n hx hb dX6_set_1 rfl (lv_at hl 1 rfl) ?_
  obtain ⟨r1, σ2, hc3, hf4⟩ := zBd hf
  clear hf
  refine zy_ci (r0 := r1) (WS1 := zg_W XL ad cA σ2) (TYS1 := zg_T XL cA) Z (va_runV (As := [.int a1]) (rest := []) X (c_X6_isStall l D V ad cA a1 σ r1 σ2 hc3 s.heap.size) (cwV 1 hts gX6_set_X6_isStall rfl rfl rfl ⟨rfl, zh_X6_isStall⟩ ⟨Nat.le_of_ble_eq_true rfl, Nat.le_of_ble_eq_true rfl⟩) (zy_pV (ci := 6) Z xL_ok xk_0 rfl rfl) rfl rfl hl.1 rfl (lv_room (Nat.le_of_ble_eq_true rfl)) dX6_set_2 ⟨Nat.le_of_ble_eq_true rfl, Nat.le_of_ble_eq_true rfl⟩) (fun H5 lo6 Z7 => ?_)
  clear Z hc3
  refine lv_if_ne (tgt := 11) hx hb dX6_set_5 (by decide) (fun b8 => ?_) (fun b8 => ?_)
  · have hf9 := zNot hf4 b8
    clear hf4
    refine lv_iload_n hx hb dX6_set_11 rfl (lv_at hl 2 rfl) ?_
    by_cases w10 : a2 = 1
    · have hf11 := zYes hf9 w10
      clear hf9
      refine zz_v w10 ?_
      refine lv_tableIn (x := 1) (off := 28) (tgt := 40) hx hb dX6_set_12 (by decide) (by decide) rfl (by decide) ?_
      refine lv_aload_n hx hb dX6_set_40 rfl (lv_at hl 0 rfl) ?_
      refine zy_get (v := .ref (ad 153)) X Z7 xL_ok xk_0 rfl rfl (fun w h => List.mem_cons_of_mem _ (List.mem_append_left _ (List.mem_append_left _ (List.mem_append_right _ h)))) 1 rfl (zz_m 2 rfl) rfl dX6_set_41 ?_
      refine zy_get (v := .ref (ad 154)) X Z7 xL_ok xk_153 rfl rfl (fun w h => List.mem_cons_of_mem _ (List.mem_append_left _ (List.mem_append_right _ h))) 1 rfl (zz_m 3 rfl) rfl dX6_set_44 ?_
      refine lv_iload_n hx hb dX6_set_47 rfl (lv_at hl 1 rfl) ?_
      obtain ⟨⟨i12, j13⟩, hf14⟩ := zG hf11
      clear hf11
      refine zy_ald (v := (154 + 2 + (Int32.toNatClampNeg a1))) (C := RX4) X Z7 xL_ok xk_154 rfl rfl xl_154 rfl i12 rfl dX6_set_48 ?_
      refine lv_iload_n hx hb dX6_set_49 rfl (lv_at hl 3 rfl) ?_
      obtain ⟨r15, σ16, hc17, hf18⟩ := zBd hf14
      clear hf14
      refine zy_ci (r0 := r15) (WS1 := zg_W XL ad cA σ16) (TYS1 := zg_T XL cA) Z7 (va_runS (As := [.ref (ad (154 + 2 + (Int32.toNatClampNeg a1))), .int a3]) (rest := []) X (c_X6_setPlace l D V ad cA (154 + 2 + (Int32.toNatClampNeg a1)) a3 (xS xk_154 j13) σ2 r15 σ16 hc17 H5.size) (va_cwS 2 hts gX6_set_X6_setPlace rfl rfl rfl zh_X6_setPlace ⟨Nat.le_of_ble_eq_true rfl, Nat.le_of_ble_eq_true rfl⟩) (zz_pS Z7) rfl rfl hl.1 rfl (lv_room (Nat.le_of_ble_eq_true rfl)) dX6_set_50 ⟨Nat.le_of_ble_eq_true rfl, Nat.le_of_ble_eq_true rfl⟩) (fun H19 lo20 Z21 => ?_)
      clear Z7 hc17
      exact zy_iret X hr hlk Z21 (zEnd hf18) dX6_set_53
    · have hf22 := zNot hf9 w10
      clear hf9
      by_cases w23 : a2 = 2
      · have hf24 := zYes hf22 w23
        clear hf22
        refine zz_v w23 ?_
        refine lv_tableIn (x := 2) (off := 42) (tgt := 54) hx hb dX6_set_12 (by decide) (by decide) rfl (by decide) ?_
        refine lv_aload_n hx hb dX6_set_54 rfl (lv_at hl 0 rfl) ?_
        refine zy_get (v := .ref (ad 153)) X Z7 xL_ok xk_0 rfl rfl (fun w h => List.mem_cons_of_mem _ (List.mem_append_left _ (List.mem_append_left _ (List.mem_append_right _ h)))) 1 rfl (zz_m 2 rfl) rfl dX6_set_55 ?_
        refine zy_get (v := .ref (ad 154)) X Z7 xL_ok xk_153 rfl rfl (fun w h => List.mem_cons_of_mem _ (List.mem_append_left _ (List.mem_append_right _ h))) 1 rfl (zz_m 3 rfl) rfl dX6_set_58 ?_
        refine lv_iload_n hx hb dX6_set_61 rfl (lv_at hl 1 rfl) ?_
        obtain ⟨⟨i25, j26⟩, hf27⟩ := zG hf24
        clear hf24
        refine zy_ald (v := (154 + 2 + (Int32.toNatClampNeg a1))) (C := RX4) X Z7 xL_ok xk_154 rfl rfl xl_154 rfl i25 rfl dX6_set_62 ?_
        refine lv_iload_n hx hb dX6_set_63 rfl (lv_at hl 3 rfl) ?_
        obtain ⟨r28, σ29, hc30, hf31⟩ := zBd hf27
        clear hf27
        refine zy_ci (r0 := r28) (WS1 := zg_W XL ad cA σ29) (TYS1 := zg_T XL cA) Z7 (va_runS (As := [.ref (ad (154 + 2 + (Int32.toNatClampNeg a1))), .int a3]) (rest := []) X (c_X6_setGoods l D V ad cA (154 + 2 + (Int32.toNatClampNeg a1)) a3 (xS xk_154 j26) σ2 r28 σ29 hc30 H5.size) (va_cwS 2 hts gX6_set_X6_setGoods rfl rfl rfl zh_X6_setGoods ⟨Nat.le_of_ble_eq_true rfl, Nat.le_of_ble_eq_true rfl⟩) (zz_pS Z7) rfl rfl hl.1 rfl (lv_room (Nat.le_of_ble_eq_true rfl)) dX6_set_64 ⟨Nat.le_of_ble_eq_true rfl, Nat.le_of_ble_eq_true rfl⟩) (fun H32 lo33 Z34 => ?_)
        clear Z7 hc30
        exact zy_iret X hr hlk Z34 (zEnd hf31) dX6_set_67
      · have hf35 := zNot hf22 w23
        clear hf22
        by_cases w36 : a2 = 3
        · have hf37 := zYes hf35 w36
          clear hf35
          refine zz_v w36 ?_
          refine lv_tableIn (x := 3) (off := 56) (tgt := 68) hx hb dX6_set_12 (by decide) (by decide) rfl (by decide) ?_
          refine lv_aload_n hx hb dX6_set_68 rfl (lv_at hl 0 rfl) ?_
          refine zy_get (v := .ref (ad 153)) X Z7 xL_ok xk_0 rfl rfl (fun w h => List.mem_cons_of_mem _ (List.mem_append_left _ (List.mem_append_left _ (List.mem_append_right _ h)))) 1 rfl (zz_m 2 rfl) rfl dX6_set_69 ?_
          refine zy_get (v := .ref (ad 154)) X Z7 xL_ok xk_153 rfl rfl (fun w h => List.mem_cons_of_mem _ (List.mem_append_left _ (List.mem_append_right _ h))) 1 rfl (zz_m 3 rfl) rfl dX6_set_72 ?_
          refine lv_iload_n hx hb dX6_set_75 rfl (lv_at hl 1 rfl) ?_
          obtain ⟨⟨i38, j39⟩, hf40⟩ := zG hf37
          clear hf37
          refine zy_ald (v := (154 + 2 + (Int32.toNatClampNeg a1))) (C := RX4) X Z7 xL_ok xk_154 rfl rfl xl_154 rfl i38 rfl dX6_set_76 ?_
          refine lv_iload_n hx hb dX6_set_77 rfl (lv_at hl 3 rfl) ?_
          obtain ⟨r41, σ42, hc43, hf44⟩ := zBd hf40
          clear hf40
          refine zy_ci (r0 := r41) (WS1 := zg_W XL ad cA σ42) (TYS1 := zg_T XL cA) Z7 (va_runS (As := [.ref (ad (154 + 2 + (Int32.toNatClampNeg a1))), .int a3]) (rest := []) X (c_X6_setPay l D V ad cA (154 + 2 + (Int32.toNatClampNeg a1)) a3 (xS xk_154 j39) σ2 r41 σ42 hc43 H5.size) (va_cwS 2 hts gX6_set_X6_setPay rfl rfl rfl zh_X6_setPay ⟨Nat.le_of_ble_eq_true rfl, Nat.le_of_ble_eq_true rfl⟩) (zz_pS Z7) rfl rfl hl.1 rfl (lv_room (Nat.le_of_ble_eq_true rfl)) dX6_set_78 ⟨Nat.le_of_ble_eq_true rfl, Nat.le_of_ble_eq_true rfl⟩) (fun H45 lo46 Z47 => ?_)
          clear Z7 hc43
          exact zy_iret X hr hlk Z47 (zEnd hf44) dX6_set_81
        · have hf48 := zNot hf35 w36
          clear hf35
          have n49 := zNe (k := 1) (y := 1) (by decide) w10
          have n50 := zNe (k := 2) (y := 2) (by decide) w23
          have n51 := zNe (k := 3) (y := 3) (by decide) w36
          refine lv_tableOut (tgt := 82) hx hb dX6_set_12 (by omega) (by decide) ?_
          refine lv_ldc (v := (-1000000001)) hx hb hown (hts _ (zz_m 1 rfl)) dX6_set_82 ?_
          exact zy_iret X hr hlk Z7 (zEnd hf48) dX6_set_84
  · have hf52 := zYes hf4 b8
    clear hf4
    refine lv_ldc (v := (-1000000001)) hx hb hown (hts _ (zz_m 1 rfl)) dX6_set_8 ?_
    exact zy_iret X hr hlk Z7 (zEnd hf52) dX6_set_10
def B_X6_shaded_89 (a1 : Int32) (a2 : Int32) (rec51_ : Int32 → Int32 → Int32 → zg_S → Option (Int32 × zg_S)) (x3 : Int32) (x4 : Int32) (x5 : Int32) (x6 : Int32) (σ : zg_S) : Option (Int32 × zg_S) := zbd (f_X0_passHour 165 x6 σ) (fun (r1 : Int32) (σ2 : zg_S) => rec51_ x3 x4 (x5 + 1) σ2)
def B_X6_shaded_51 (a1 : Int32) (a2 : Int32) (rec51_ : Int32 → Int32 → Int32 → zg_S → Option (Int32 × zg_S)) (x3 : Int32) (x4 : Int32) (x5 : Int32) (σ : zg_S) : Option (Int32 × zg_S) := (if a2 ≤ x5 then some (x4, σ) else zbd (f_X0_hauling 165 σ) (fun (r13 : Int32) (σ14 : zg_S) => zbd (f_X0_hauledTo 165 r13 σ14) (fun (r22 : Int32) (σ23 : zg_S) => zbd (f_X0_wouldShade 165 r22 x3 σ23) (fun (r29 : Int32) (σ30 : zg_S) => (if r29 = 0 then B_X6_shaded_89 a1 a2 rec51_ x3 x4 x5 r13 σ30 else B_X6_shaded_89 a1 a2 rec51_ x3 (x4 + 1) x5 r13 σ30)))))
def L_X6_shaded_51 (a1 : Int32) (a2 : Int32) : Nat → Int32 → Int32 → Int32 → zg_S → Option (Int32 × zg_S) := zfix (fun _ _ _ _ => none) (B_X6_shaded_51 a1 a2)
def f_X6_shaded (a1 : Int32) (a2 : Int32) (σ : zg_S) : Option (Int32 × zg_S) := zbd (f_X6_isStall a1 σ) (fun (r41 : Int32) (σ42 : zg_S) => (if r41 = 0 then some ((-1000000001), σ42) else zbd (f_X6_within a2 1 60 σ42) (fun (r51 : Int32) (σ52 : zg_S) => (if r51 = 0 then some ((-1000000001), σ52) else zbd (f_X0_takeOver 165 153 σ52) (fun (r60 : Int32) (σ61 : zg_S) => (if zin a1 9 = true then zlet (σ61 (166 + 2 + (Int32.toNatClampNeg a1)) 1) (fun (y70 : Int32) => L_X6_shaded_51 a1 a2 zfu y70 0 0 σ61) else none))))))
set_option maxHeartbeats 4000000 in
set_option maxRecDepth 100000 in
theorem c_X6_shaded (l : Launch) (D : va_G) (V : zz_V) (ad : Nat → Nat) (cA : Nat → ClassId) (a1 : Int32) (a2 : Int32)  (σ : zg_S) (r0 : Int32) (σf : zg_S) (hf : f_X6_shaded a1 a2 σ = some (r0, σf)) : zM_I l yX6_shaded wsX6_shaded 6 137 D V XL ad cA [.ref (ad 0), .int a1, .int a2] σ r0 σf := by
  intro sz
  refine Met.ofW (cc := cX6_shaded) (maxL := 7) (ret := (some .int)) (by decide) rfl ?_
  intro p e s m args below meth c s₁ B hml hv
  obtain ⟨rfl, hC⟩ := hv
  have hx := B.exec
  have hb := B.bytes
  have hr := B.returns
  have hts := atoms_spec (ws := wsX6_shaded) B.pre
  have hown : s.vm.findClass RX6 = some m.cls := findClass_of_methodNamed B.named
  have hlk := B.notSynchronized
  have X : CallFix p m c cX6_shaded 7 s _ wsX6_shaded RX6 := ⟨hx, hb, hml, hown, hts⟩
  have Z := zz_enter hC
  generalize va_A (zg_W XL ad cA σ) sz = A at Z ⊢
  have hl := lv_entry ([.ref (ad 0), .int a1, .int a2]) (n := 7) (Nat.le_of_ble_eq_true rfl)
  rw [lg_entry_eq]
  generalize (lg_sl ([.ref (ad 0), .int a1, .int a2]) ++ List.replicate (7 - (lg_sl ([.ref (ad 0), .int a1, .int a2])).length) Slot.unset).toArray = ls at hl ⊢
  have hl : lv_has ls 7 [(0, .ref (ad 0)), (1, .int a1), (2, .int a2)] := hl
  unfold f_X6_shaded at hf
  have b51_ : ∀ (k51_ : Nat) (x3 : Int32) (x4 : Int32) (x5 : Int32) (σ : zg_S), L_X6_shaded_51 a1 a2 k51_ x3 x4 x5 σ = some (r0, σf) → ∀ (H : Heap) (locs : List Loc) (ls : Array Slot), zz_S D V A s (zg_W XL ad cA σ) (zg_T XL cA) H locs → lv_has ls 7 [(0, .ref (ad 0)), (2, .int a2), (3, .int x3), (4, .int x4), (5, .int x5)] → W p l e (headSpec wsX6_shaded { frames := 6, cells := 0, slots := 0, locals := 137 }).room s m (List.toArray [.ref (ad 0), .int a1, .int a2]) below meth c H locs 0 0 (MQ below (va_Qi (fun r (_ : Unit) => r = r0) (fun _ t => zz_B D A (zg_W XL ad cA σf) (zg_T XL cA) t) A) (List.toArray [.ref (ad 0), .int a1, .int a2]) s 0 0 A) (F0 m 51 ls []) := by
    intro k51_
    induction k51_ with
    | zero =>
        intro x3 x4 x5 σ hf51_ H51_ locs51_ ls51_ Z51_ hl51_
        exact zNone hf51_
    | succ k51_ ih51_ =>
        intro x3 x4 x5 σ hf51_ H51_ locs51_ ls51_ Z51_ hl51_
        replace hf51_ : B_X6_shaded_51 a1 a2 (L_X6_shaded_51 a1 a2 k51_) x3 x4 x5 σ = some (r0, σf) := hf51_
        unfold B_X6_shaded_51 at hf51_
        have b89_ : ∀ (x3 : Int32) (x4 : Int32) (x5 : Int32) (x6 : Int32) (σ : zg_S), B_X6_shaded_89 a1 a2 (L_X6_shaded_51 a1 a2 k51_) x3 x4 x5 x6 σ = some (r0, σf) → ∀ (H : Heap) (locs : List Loc) (ls : Array Slot), zz_S D V A s (zg_W XL ad cA σ) (zg_T XL cA) H locs → lv_has ls 7 [(0, .ref (ad 0)), (2, .int a2), (3, .int x3), (4, .int x4), (5, .int x5), (6, .int x6)] → W p l e (headSpec wsX6_shaded { frames := 6, cells := 0, slots := 0, locals := 137 }).room s m (List.toArray [.ref (ad 0), .int a1, .int a2]) below meth c H locs 0 0 (MQ below (va_Qi (fun r (_ : Unit) => r = r0) (fun _ t => zz_B D A (zg_W XL ad cA σf) (zg_T XL cA) t) A) (List.toArray [.ref (ad 0), .int a1, .int a2]) s 0 0 A) (F0 m 89 ls []) := by
          intro x3 x4 x5 x6 σ hf89_ H89_ locs89_ ls89_ Z89_ hl89_
          unfold B_X6_shaded_89 at hf89_
          refine lv_aload_n hx hb dX6_shaded_89 rfl (lv_at hl89_ 0 rfl) ?_
          refine zy_get (v := .ref (ad 165)) X Z89_ xL_ok xk_0 rfl rfl (fun w h => List.mem_cons_of_mem _ (List.mem_append_left _ (List.mem_append_left _ (List.mem_append_left _ (List.mem_append_right _ h))))) 2 rfl (zz_m 2 rfl) rfl dX6_shaded_90 ?_
          refine lv_iload hx hb dX6_shaded_93 (lv_at hl89_ 5 rfl) ?_
          obtain ⟨r1, σ2, hc3, hf4⟩ := zBd hf89_
          clear hf89_
          refine zy_cv (WS1 := zg_W XL ad cA σ2) (TYS1 := zg_T XL cA) Z89_ (va_runV (As := [.int x6]) (rest := []) X (c_X0_passHour l D V ad cA 165 x6 xk_165 σ r1 σ2 hc3 H89_.size) (cwV 1 hts gX6_shaded_X0_passHour rfl rfl rfl ⟨rfl, zh_X0_passHour⟩ ⟨Nat.le_of_ble_eq_true rfl, Nat.le_of_ble_eq_true rfl⟩) (zy_pV (ci := 0) Z89_ xL_ok xk_165 rfl rfl) rfl rfl hl89_.1 rfl (lv_room (Nat.le_of_ble_eq_true rfl)) dX6_shaded_95 ⟨Nat.le_of_ble_eq_true rfl, Nat.le_of_ble_eq_true rfl⟩) (fun H5 lo6 Z7 => ?_)
          clear Z89_ hc3
          refine lv_iinc (v := (x5 + 1)) (lv' := [(5, .int (x5 + 1)), (0, .ref (ad 0)), (2, .int a2), (3, .int x3), (4, .int x4), (6, .int x6)]) hx hb dX6_shaded_98 hl89_ (k := 4) rfl rfl (by decide) rfl (fun ls9 hl8 => ?_)
          clear hl89_
          refine lv_goto (tgt := 51) hx hb dX6_shaded_101 (by decide) ?_
          exact ih51_ x3 x4 (x5 + 1) σ2 hf4 _ _ _ Z7 (lv_sub hl8 [1, 2, 3, 4, 0] rfl)
        refine lv_iload hx hb dX6_shaded_51 (lv_at hl51_ 4 rfl) ?_
        refine lv_iload_n hx hb dX6_shaded_53 rfl (lv_at hl51_ 1 rfl) ?_
        refine lv_icmp_ge (tgt := 104) hx hb dX6_shaded_54 (by decide) (fun b10 => ?_) (fun b10 => ?_)
        · have hf11 := zYes hf51_ b10
          clear hf51_
          refine lv_iload hx hb dX6_shaded_104 (lv_at hl51_ 3 rfl) ?_
          exact zy_iret X hr hlk Z51_ (zEnd hf11) dX6_shaded_106
        · have hf12 := zNot hf51_ b10
          clear hf51_
          refine lv_aload_n hx hb dX6_shaded_57 rfl (lv_at hl51_ 0 rfl) ?_
          refine zy_get (v := .ref (ad 165)) X Z51_ xL_ok xk_0 rfl rfl (fun w h => List.mem_cons_of_mem _ (List.mem_append_left _ (List.mem_append_left _ (List.mem_append_left _ (List.mem_append_right _ h))))) 2 rfl (zz_m 2 rfl) rfl dX6_shaded_58 ?_
          obtain ⟨r13, σ14, hc15, hf16⟩ := zBd hf12
          clear hf12
          refine zy_ci (r0 := r13) (WS1 := zg_W XL ad cA σ14) (TYS1 := zg_T XL cA) Z51_ (va_runV (As := []) (rest := []) X (c_X0_hauling l D V ad cA 165 xk_165 σ r13 σ14 hc15 H51_.size) (cwV 0 hts gX6_shaded_X0_hauling rfl rfl rfl ⟨rfl, zh_X0_hauling⟩ ⟨Nat.le_of_ble_eq_true rfl, Nat.le_of_ble_eq_true rfl⟩) (zy_pV (ci := 0) Z51_ xL_ok xk_165 rfl rfl) rfl rfl hl51_.1 rfl (lv_room (Nat.le_of_ble_eq_true rfl)) dX6_shaded_61 ⟨Nat.le_of_ble_eq_true rfl, Nat.le_of_ble_eq_true rfl⟩) (fun H17 lo18 Z19 => ?_)
          clear Z51_ hc15
          refine lv_istore (lv' := [(6, .int r13), (0, .ref (ad 0)), (2, .int a2), (3, .int x3), (4, .int x4), (5, .int x5)]) hx hb dX6_shaded_64 hl51_ (by decide) rfl (fun ls21 hl20 => ?_)
          clear hl51_
          refine lv_aload_n hx hb dX6_shaded_66 rfl (lv_at hl20 1 rfl) ?_
          refine zy_get (v := .ref (ad 165)) X Z19 xL_ok xk_0 rfl rfl (fun w h => List.mem_cons_of_mem _ (List.mem_append_left _ (List.mem_append_left _ (List.mem_append_left _ (List.mem_append_right _ h))))) 2 rfl (zz_m 2 rfl) rfl dX6_shaded_67 ?_
          refine lv_aload_n hx hb dX6_shaded_70 rfl (lv_at hl20 1 rfl) ?_
          refine zy_get (v := .ref (ad 165)) X Z19 xL_ok xk_0 rfl rfl (fun w h => List.mem_cons_of_mem _ (List.mem_append_left _ (List.mem_append_left _ (List.mem_append_left _ (List.mem_append_right _ h))))) 2 rfl (zz_m 2 rfl) rfl dX6_shaded_71 ?_
          refine lv_iload hx hb dX6_shaded_74 (lv_at hl20 0 rfl) ?_
          obtain ⟨r22, σ23, hc24, hf25⟩ := zBd hf16
          clear hf16
          refine zy_ci (r0 := r22) (WS1 := zg_W XL ad cA σ23) (TYS1 := zg_T XL cA) Z19 (va_runV (As := [.int r13]) (rest := [.ref (ad 165)]) X (c_X0_hauledTo l D V ad cA 165 r13 xk_165 σ14 r22 σ23 hc24 H17.size) (cwV 1 hts gX6_shaded_X0_hauledTo rfl rfl rfl ⟨rfl, zh_X0_hauledTo⟩ ⟨Nat.le_of_ble_eq_true rfl, Nat.le_of_ble_eq_true rfl⟩) (zy_pV (ci := 0) Z19 xL_ok xk_165 rfl rfl) rfl rfl hl20.1 rfl (lv_room (Nat.le_of_ble_eq_true rfl)) dX6_shaded_76 ⟨Nat.le_of_ble_eq_true rfl, Nat.le_of_ble_eq_true rfl⟩) (fun H26 lo27 Z28 => ?_)
          clear Z19 hc24
          refine lv_iload_n hx hb dX6_shaded_79 rfl (lv_at hl20 3 rfl) ?_
          obtain ⟨r29, σ30, hc31, hf32⟩ := zBd hf25
          clear hf25
          refine zy_ci (r0 := r29) (WS1 := zg_W XL ad cA σ30) (TYS1 := zg_T XL cA) Z28 (va_runV (As := [.int r22, .int x3]) (rest := []) X (c_X0_wouldShade l D V ad cA 165 r22 x3 xk_165 σ23 r29 σ30 hc31 H26.size) (cwV 2 hts gX6_shaded_X0_wouldShade rfl rfl rfl ⟨rfl, zh_X0_wouldShade⟩ ⟨Nat.le_of_ble_eq_true rfl, Nat.le_of_ble_eq_true rfl⟩) (zy_pV (ci := 0) Z28 xL_ok xk_165 rfl rfl) rfl rfl hl20.1 rfl (lv_room (Nat.le_of_ble_eq_true rfl)) dX6_shaded_80 ⟨Nat.le_of_ble_eq_true rfl, Nat.le_of_ble_eq_true rfl⟩) (fun H33 lo34 Z35 => ?_)
          clear Z28 hc31
          refine lv_if_eq (tgt := 89) hx hb dX6_shaded_83 (by decide) (fun b36 => ?_) (fun b36 => ?_)
          · have hf37 := zYes hf32 b36
            clear hf32
            exact b89_ x3 x4 x5 r13 σ30 hf37 _ _ _ Z35 (lv_sub hl20 [1, 2, 3, 4, 5, 0] rfl)
          · have hf38 := zNot hf32 b36
            clear hf32
            refine lv_iinc (v := (x4 + 1)) (lv' := [(4, .int (x4 + 1)), (6, .int r13), (0, .ref (ad 0)), (2, .int a2), (3, .int x3), (5, .int x5)]) hx hb dX6_shaded_86 hl20 (k := 4) rfl rfl (by decide) rfl (fun ls40 hl39 => ?_)
            clear hl20
            exact b89_ x3 (x4 + 1) x5 r13 σ30 hf38 _ _ _ Z35 (lv_sub hl39 [2, 3, 4, 0, 5, 1] rfl)
  refine lv_aload_n hx hb dX6_shaded_0 rfl (lv_at hl 0 rfl) ?_
  refine lv_iload_n hx hb dX6_shaded_1 rfl (lv_at hl 1 rfl) ?_
  obtain ⟨r41, σ42, hc43, hf44⟩ := zBd hf
  clear hf
  refine zy_ci (r0 := r41) (WS1 := zg_W XL ad cA σ42) (TYS1 := zg_T XL cA) Z (va_runV (As := [.int a1]) (rest := []) X (c_X6_isStall l D V ad cA a1 σ r41 σ42 hc43 s.heap.size) (cwV 1 hts gX6_shaded_X6_isStall rfl rfl rfl ⟨rfl, zh_X6_isStall⟩ ⟨Nat.le_of_ble_eq_true rfl, Nat.le_of_ble_eq_true rfl⟩) (zy_pV (ci := 6) Z xL_ok xk_0 rfl rfl) rfl rfl hl.1 rfl (lv_room (Nat.le_of_ble_eq_true rfl)) dX6_shaded_2 ⟨Nat.le_of_ble_eq_true rfl, Nat.le_of_ble_eq_true rfl⟩) (fun H45 lo46 Z47 => ?_)
  clear Z hc43
  refine lv_if_eq (tgt := 18) hx hb dX6_shaded_5 (by decide) (fun b48 => ?_) (fun b48 => ?_)
  · have hf49 := zYes hf44 b48
    clear hf44
    refine lv_ldc (v := (-1000000001)) hx hb hown (hts _ (zz_m 1 rfl)) dX6_shaded_18 ?_
    exact zy_iret X hr hlk Z47 (zEnd hf49) dX6_shaded_20
  · have hf50 := zNot hf44 b48
    clear hf44
    refine lv_iload_n hx hb dX6_shaded_8 rfl (lv_at hl 2 rfl) ?_
    refine lv_iconst (v := 1) hx hb dX6_shaded_9 (by decide) ?_
    refine lv_bipush (v := 60) hx hb dX6_shaded_10 (by decide) ?_
    obtain ⟨r51, σ52, hc53, hf54⟩ := zBd hf50
    clear hf50
    refine zy_ci (r0 := r51) (WS1 := zg_W XL ad cA σ52) (TYS1 := zg_T XL cA) Z47 (va_runS (As := [.int a2, .int 1, .int 60]) (rest := []) X (c_X6_within l D V ad cA a2 1 60 σ42 r51 σ52 hc53 H45.size) (va_cwS 3 hts gX6_shaded_X6_within rfl rfl rfl zh_X6_within ⟨Nat.le_of_ble_eq_true rfl, Nat.le_of_ble_eq_true rfl⟩) (zz_pS Z47) rfl rfl hl.1 rfl (lv_room (Nat.le_of_ble_eq_true rfl)) dX6_shaded_12 ⟨Nat.le_of_ble_eq_true rfl, Nat.le_of_ble_eq_true rfl⟩) (fun H55 lo56 Z57 => ?_)
    clear Z47 hc53
    refine lv_if_ne (tgt := 21) hx hb dX6_shaded_15 (by decide) (fun b58 => ?_) (fun b58 => ?_)
    · have hf59 := zNot hf54 b58
      clear hf54
      refine lv_aload_n hx hb dX6_shaded_21 rfl (lv_at hl 0 rfl) ?_
      refine zy_get (v := .ref (ad 165)) X Z57 xL_ok xk_0 rfl rfl (fun w h => List.mem_cons_of_mem _ (List.mem_append_left _ (List.mem_append_left _ (List.mem_append_left _ (List.mem_append_right _ h))))) 2 rfl (zz_m 2 rfl) rfl dX6_shaded_22 ?_
      refine lv_aload_n hx hb dX6_shaded_25 rfl (lv_at hl 0 rfl) ?_
      refine zy_get (v := .ref (ad 153)) X Z57 xL_ok xk_0 rfl rfl (fun w h => List.mem_cons_of_mem _ (List.mem_append_left _ (List.mem_append_left _ (List.mem_append_left _ (List.mem_append_right _ h))))) 1 rfl (zz_m 3 rfl) rfl dX6_shaded_26 ?_
      obtain ⟨r60, σ61, hc62, hf63⟩ := zBd hf59
      clear hf59
      refine zy_cv (WS1 := zg_W XL ad cA σ61) (TYS1 := zg_T XL cA) Z57 (va_runV (As := [.ref (ad 153)]) (rest := []) X (c_X0_takeOver l D V ad cA 165 153 xk_165 xk_153 σ52 r60 σ61 hc62 H55.size) (cwV 1 hts gX6_shaded_X0_takeOver rfl rfl rfl ⟨rfl, zh_X0_takeOver⟩ ⟨Nat.le_of_ble_eq_true rfl, Nat.le_of_ble_eq_true rfl⟩) (zy_pV (ci := 0) Z57 xL_ok xk_165 rfl rfl) rfl rfl hl.1 rfl (lv_room (Nat.le_of_ble_eq_true rfl)) dX6_shaded_29 ⟨Nat.le_of_ble_eq_true rfl, Nat.le_of_ble_eq_true rfl⟩) (fun H64 lo65 Z66 => ?_)
      clear Z57 hc62
      refine lv_aload_n hx hb dX6_shaded_32 rfl (lv_at hl 0 rfl) ?_
      refine zy_get (v := .ref (ad 165)) X Z66 xL_ok xk_0 rfl rfl (fun w h => List.mem_cons_of_mem _ (List.mem_append_left _ (List.mem_append_left _ (List.mem_append_left _ (List.mem_append_right _ h))))) 2 rfl (zz_m 2 rfl) rfl dX6_shaded_33 ?_
      refine zy_get (v := .ref (ad 166)) X Z66 xL_ok xk_165 rfl rfl (fun w h => List.mem_cons_of_mem _ (List.mem_append_left _ (List.mem_append_left _ (List.mem_append_right _ h)))) 1 rfl (zz_m 4 rfl) rfl dX6_shaded_36 ?_
      refine lv_iload_n hx hb dX6_shaded_39 rfl (lv_at hl 1 rfl) ?_
      obtain ⟨⟨i67, j68⟩, hf69⟩ := zG hf63
      clear hf63
      refine zy_ald (v := (166 + 2 + (Int32.toNatClampNeg a1))) (C := RX4) X Z66 xL_ok xk_166 rfl rfl xl_166 rfl i67 rfl dX6_shaded_40 ?_
      refine zy_get (v := .int (σ61 (166 + 2 + (Int32.toNatClampNeg a1)) 1)) X Z66 xL_ok (xS xk_166 j68) rfl rfl (fun w h => List.mem_cons_of_mem _ (List.mem_append_left _ (List.mem_append_right _ h))) 1 rfl (zz_m 5 rfl) rfl dX6_shaded_41 ?_
      obtain ⟨y70, ey71, hf72⟩ := zLet hf69
      clear hf69
      refine zz_v (v := y70) ey71.symm ?_
      clear ey71
      refine lv_istore_n (lv' := [(3, .int y70), (0, .ref (ad 0)), (1, .int a1), (2, .int a2)]) hx hb dX6_shaded_44 rfl hl (by decide) rfl (fun ls74 hl73 => ?_)
      clear hl
      refine lv_iconst (v := 0) hx hb dX6_shaded_45 (by decide) ?_
      refine lv_istore (lv' := [(4, .int 0), (3, .int y70), (0, .ref (ad 0)), (1, .int a1), (2, .int a2)]) hx hb dX6_shaded_46 hl73 (by decide) rfl (fun ls76 hl75 => ?_)
      clear hl73
      refine lv_iconst (v := 0) hx hb dX6_shaded_48 (by decide) ?_
      refine lv_istore (lv' := [(5, .int 0), (4, .int 0), (3, .int y70), (0, .ref (ad 0)), (1, .int a1), (2, .int a2)]) hx hb dX6_shaded_49 hl75 (by decide) rfl (fun ls78 hl77 => ?_)
      clear hl75
      exact b51_ zfu y70 0 0 σ61 hf72 _ _ _ Z66 (lv_sub hl77 [3, 5, 2, 1, 0] rfl)
    · have hf79 := zYes hf54 b58
      clear hf54
      refine lv_ldc (v := (-1000000001)) hx hb hown (hts _ (zz_m 1 rfl)) dX6_shaded_18 ?_
      exact zy_iret X hr hlk Z57 (zEnd hf79) dX6_shaded_20
def f_X6_sheet (a1 : Int32) (a2 : Int32) (a3 : Int32) (σ : zg_S) : Option (Int32 × zg_S) := zbd (f_X6_isSheet a1 σ) (fun (r1 : Int32) (σ2 : zg_S) => (if r1 = 0 then some ((-1000000001), σ2) else zbd (f_X6_within a2 (-1) 1 σ2) (fun (r11 : Int32) (σ12 : zg_S) => (if r11 = 0 then some ((-1000000001), σ12) else (if a2 = (-1) then (if zin a1 4 = true then zbd (f_X2_become (53 + 2 * (Int32.toNatClampNeg a1)) (-1) 0 σ12) (fun (r42 : Int32) (σ43 : zg_S) => some (0, σ43)) else none) else (if a3 ≤ 24 then (if 0 ≤ a3 then (if zin a1 4 = true then zbd (f_X2_become (53 + 2 * (Int32.toNatClampNeg a1)) a2 a3 σ12) (fun (r29 : Int32) (σ30 : zg_S) => some (a3, σ30)) else none) else some ((-1000000014), σ12)) else some ((-1000000001), σ12)))))))
set_option maxHeartbeats 4000000 in
set_option maxRecDepth 100000 in
theorem c_X6_sheet (l : Launch) (D : va_G) (V : zz_V) (ad : Nat → Nat) (cA : Nat → ClassId) (a1 : Int32) (a2 : Int32) (a3 : Int32)  (σ : zg_S) (r0 : Int32) (σf : zg_S) (hf : f_X6_sheet a1 a2 a3 σ = some (r0, σf)) : zM_I l yX6_sheet wsX6_sheet 3 69 D V XL ad cA [.ref (ad 0), .int a1, .int a2, .int a3] σ r0 σf := by
  intro sz
  refine Met.ofW (cc := cX6_sheet) (maxL := 4) (ret := (some .int)) (by decide) rfl ?_
  intro p e s m args below meth c s₁ B hml hv
  obtain ⟨rfl, hC⟩ := hv
  have hx := B.exec
  have hb := B.bytes
  have hr := B.returns
  have hts := atoms_spec (ws := wsX6_sheet) B.pre
  have hown : s.vm.findClass RX6 = some m.cls := findClass_of_methodNamed B.named
  have hlk := B.notSynchronized
  have X : CallFix p m c cX6_sheet 4 s _ wsX6_sheet RX6 := ⟨hx, hb, hml, hown, hts⟩
  have Z := zz_enter hC
  generalize va_A (zg_W XL ad cA σ) sz = A at Z ⊢
  have hl := lv_entry ([.ref (ad 0), .int a1, .int a2, .int a3]) (n := 4) (Nat.le_of_ble_eq_true rfl)
  rw [lg_entry_eq]
  generalize (lg_sl ([.ref (ad 0), .int a1, .int a2, .int a3]) ++ List.replicate (4 - (lg_sl ([.ref (ad 0), .int a1, .int a2, .int a3])).length) Slot.unset).toArray = ls at hl ⊢
  have hl : lv_has ls 4 [(0, .ref (ad 0)), (1, .int a1), (2, .int a2), (3, .int a3)] := hl
  unfold f_X6_sheet at hf
  refine lv_iload_n hx hb dX6_sheet_0 rfl (lv_at hl 1 rfl) ?_
  obtain ⟨r1, σ2, hc3, hf4⟩ := zBd hf
  clear hf
  refine zy_ci (r0 := r1) (WS1 := zg_W XL ad cA σ2) (TYS1 := zg_T XL cA) Z (va_runS (As := [.int a1]) (rest := []) X (c_X6_isSheet l D V ad cA a1 σ r1 σ2 hc3 s.heap.size) (va_cwS 1 hts gX6_sheet_X6_isSheet rfl rfl rfl zh_X6_isSheet ⟨Nat.le_of_ble_eq_true rfl, Nat.le_of_ble_eq_true rfl⟩) (zz_pS Z) rfl rfl hl.1 rfl (lv_room (Nat.le_of_ble_eq_true rfl)) dX6_sheet_1 ⟨Nat.le_of_ble_eq_true rfl, Nat.le_of_ble_eq_true rfl⟩) (fun H5 lo6 Z7 => ?_)
  clear Z hc3
  refine lv_if_eq (tgt := 16) hx hb dX6_sheet_4 (by decide) (fun b8 => ?_) (fun b8 => ?_)
  · have hf9 := zYes hf4 b8
    clear hf4
    refine lv_ldc (v := (-1000000001)) hx hb hown (hts _ (zz_m 1 rfl)) dX6_sheet_16 ?_
    exact zy_iret X hr hlk Z7 (zEnd hf9) dX6_sheet_18
  · have hf10 := zNot hf4 b8
    clear hf4
    refine lv_iload_n hx hb dX6_sheet_7 rfl (lv_at hl 2 rfl) ?_
    refine lv_iconst (v := (-1)) hx hb dX6_sheet_8 (by decide) ?_
    refine lv_iconst (v := 1) hx hb dX6_sheet_9 (by decide) ?_
    obtain ⟨r11, σ12, hc13, hf14⟩ := zBd hf10
    clear hf10
    refine zy_ci (r0 := r11) (WS1 := zg_W XL ad cA σ12) (TYS1 := zg_T XL cA) Z7 (va_runS (As := [.int a2, .int (-1), .int 1]) (rest := []) X (c_X6_within l D V ad cA a2 (-1) 1 σ2 r11 σ12 hc13 H5.size) (va_cwS 3 hts gX6_sheet_X6_within rfl rfl rfl zh_X6_within ⟨Nat.le_of_ble_eq_true rfl, Nat.le_of_ble_eq_true rfl⟩) (zz_pS Z7) rfl rfl hl.1 rfl (lv_room (Nat.le_of_ble_eq_true rfl)) dX6_sheet_10 ⟨Nat.le_of_ble_eq_true rfl, Nat.le_of_ble_eq_true rfl⟩) (fun H15 lo16 Z17 => ?_)
    clear Z7 hc13
    refine lv_if_ne (tgt := 19) hx hb dX6_sheet_13 (by decide) (fun b18 => ?_) (fun b18 => ?_)
    · have hf19 := zNot hf14 b18
      clear hf14
      refine lv_iload_n hx hb dX6_sheet_19 rfl (lv_at hl 2 rfl) ?_
      refine lv_iconst (v := (-1)) hx hb dX6_sheet_20 (by decide) ?_
      refine lv_icmp_ne (tgt := 37) hx hb dX6_sheet_21 (by decide) (fun b20 => ?_) (fun b20 => ?_)
      · have hf21 := zNot hf19 b20
        clear hf19
        refine lv_iload_n hx hb dX6_sheet_37 rfl (lv_at hl 3 rfl) ?_
        refine lv_bipush (v := 24) hx hb dX6_sheet_38 (by decide) ?_
        refine lv_icmp_le (tgt := 46) hx hb dX6_sheet_40 (by decide) (fun b22 => ?_) (fun b22 => ?_)
        · have hf23 := zYes hf21 b22
          clear hf21
          refine lv_iload_n hx hb dX6_sheet_46 rfl (lv_at hl 3 rfl) ?_
          refine lv_if_ge (tgt := 54) hx hb dX6_sheet_47 (by decide) (fun b24 => ?_) (fun b24 => ?_)
          · have hf25 := zYes hf23 b24
            clear hf23
            refine lv_aload_n hx hb dX6_sheet_54 rfl (lv_at hl 0 rfl) ?_
            refine zy_get (v := .ref (ad 3)) X Z17 xL_ok xk_0 rfl rfl (fun w h => List.mem_cons_of_mem _ (List.mem_append_left _ (List.mem_append_right _ h))) 7 rfl (zz_m 2 rfl) rfl dX6_sheet_55 ?_
            refine lv_iload_n hx hb dX6_sheet_58 rfl (lv_at hl 1 rfl) ?_
            obtain ⟨⟨i26, j27⟩, hf28⟩ := zG hf25
            clear hf25
            refine zy_ald (v := (53 + 2 * (Int32.toNatClampNeg a1))) (C := RX2) X Z17 xL_ok xk_3 rfl rfl xl_3 rfl i26 rfl dX6_sheet_59 ?_
            refine lv_iload_n hx hb dX6_sheet_60 rfl (lv_at hl 2 rfl) ?_
            refine lv_iload_n hx hb dX6_sheet_61 rfl (lv_at hl 3 rfl) ?_
            obtain ⟨r29, σ30, hc31, hf32⟩ := zBd hf28
            clear hf28
            refine zy_cv (WS1 := zg_W XL ad cA σ30) (TYS1 := zg_T XL cA) Z17 (va_runV (As := [.int a2, .int a3]) (rest := []) X (c_X2_become l D V ad cA (53 + 2 * (Int32.toNatClampNeg a1)) a2 a3 (xH j27) σ12 r29 σ30 hc31 H15.size) (cwV 2 hts gX6_sheet_X2_become rfl rfl rfl ⟨rfl, zh_X2_become⟩ ⟨Nat.le_of_ble_eq_true rfl, Nat.le_of_ble_eq_true rfl⟩) (zy_pV (ci := 2) Z17 xL_ok (xH j27) rfl rfl) rfl rfl hl.1 rfl (lv_room (Nat.le_of_ble_eq_true rfl)) dX6_sheet_62 ⟨Nat.le_of_ble_eq_true rfl, Nat.le_of_ble_eq_true rfl⟩) (fun H33 lo34 Z35 => ?_)
            clear Z17 hc31
            refine lv_iload_n hx hb dX6_sheet_65 rfl (lv_at hl 3 rfl) ?_
            exact zy_iret X hr hlk Z35 (zEnd hf32) dX6_sheet_66
          · have hf36 := zNot hf23 b24
            clear hf23
            refine lv_ldcw (v := (-1000000014)) hx hb hown (hts _ (zz_m 3 rfl)) dX6_sheet_50 ?_
            exact zy_iret X hr hlk Z17 (zEnd hf36) dX6_sheet_53
        · have hf37 := zNot hf21 b22
          clear hf21
          refine lv_ldc (v := (-1000000001)) hx hb hown (hts _ (zz_m 1 rfl)) dX6_sheet_43 ?_
          exact zy_iret X hr hlk Z17 (zEnd hf37) dX6_sheet_45
      · have hf38 := zYes hf19 b20
        clear hf19
        refine lv_aload_n hx hb dX6_sheet_24 rfl (lv_at hl 0 rfl) ?_
        refine zy_get (v := .ref (ad 3)) X Z17 xL_ok xk_0 rfl rfl (fun w h => List.mem_cons_of_mem _ (List.mem_append_left _ (List.mem_append_right _ h))) 7 rfl (zz_m 2 rfl) rfl dX6_sheet_25 ?_
        refine lv_iload_n hx hb dX6_sheet_28 rfl (lv_at hl 1 rfl) ?_
        obtain ⟨⟨i39, j40⟩, hf41⟩ := zG hf38
        clear hf38
        refine zy_ald (v := (53 + 2 * (Int32.toNatClampNeg a1))) (C := RX2) X Z17 xL_ok xk_3 rfl rfl xl_3 rfl i39 rfl dX6_sheet_29 ?_
        refine lv_iconst (v := (-1)) hx hb dX6_sheet_30 (by decide) ?_
        refine lv_iconst (v := 0) hx hb dX6_sheet_31 (by decide) ?_
        obtain ⟨r42, σ43, hc44, hf45⟩ := zBd hf41
        clear hf41
        refine zy_cv (WS1 := zg_W XL ad cA σ43) (TYS1 := zg_T XL cA) Z17 (va_runV (As := [.int (-1), .int 0]) (rest := []) X (c_X2_become l D V ad cA (53 + 2 * (Int32.toNatClampNeg a1)) (-1) 0 (xH j40) σ12 r42 σ43 hc44 H15.size) (cwV 2 hts gX6_sheet_X2_become rfl rfl rfl ⟨rfl, zh_X2_become⟩ ⟨Nat.le_of_ble_eq_true rfl, Nat.le_of_ble_eq_true rfl⟩) (zy_pV (ci := 2) Z17 xL_ok (xH j40) rfl rfl) rfl rfl hl.1 rfl (lv_room (Nat.le_of_ble_eq_true rfl)) dX6_sheet_32 ⟨Nat.le_of_ble_eq_true rfl, Nat.le_of_ble_eq_true rfl⟩) (fun H46 lo47 Z48 => ?_)
        clear Z17 hc44
        refine lv_iconst (v := 0) hx hb dX6_sheet_35 (by decide) ?_
        exact zy_iret X hr hlk Z48 (zEnd hf45) dX6_sheet_36
    · have hf49 := zYes hf14 b18
      clear hf14
      refine lv_ldc (v := (-1000000001)) hx hb hown (hts _ (zz_m 1 rfl)) dX6_sheet_16 ?_
      exact zy_iret X hr hlk Z17 (zEnd hf49) dX6_sheet_18
def f_X6_stall (a1 : Int32) (a2 : Int32) (a3 : Int32) (σ : zg_S) : Option (Int32 × zg_S) := zbd (f_X6_within a1 0 5 σ) (fun (r1 : Int32) (σ2 : zg_S) => (if r1 = 0 then some ((-1000000001), σ2) else zbd (f_X6_within a2 0 11 σ2) (fun (r11 : Int32) (σ12 : zg_S) => (if r11 = 0 then some ((-1000000001), σ12) else zbd (f_X6_within a3 0 99 σ12) (fun (r21 : Int32) (σ22 : zg_S) => (if r21 = 0 then some ((-1000000001), σ22) else (if (σ22 153 3) < 9 then zbd (f_X0_open 153 a1 a2 a3 σ22) (fun (r32 : Int32) (σ33 : zg_S) => some (r32, σ33)) else some ((-1000000003), σ22))))))))
set_option maxHeartbeats 4000000 in
set_option maxRecDepth 100000 in
theorem c_X6_stall (l : Launch) (D : va_G) (V : zz_V) (ad : Nat → Nat) (cA : Nat → ClassId) (a1 : Int32) (a2 : Int32) (a3 : Int32)  (σ : zg_S) (r0 : Int32) (σf : zg_S) (hf : f_X6_stall a1 a2 a3 σ = some (r0, σf)) : zM_I l yX6_stall wsX6_stall 1 24 D V XL ad cA [.ref (ad 0), .int a1, .int a2, .int a3] σ r0 σf := by
  intro sz
  refine Met.ofW (cc := cX6_stall) (maxL := 4) (ret := (some .int)) (by decide) rfl ?_
  intro p e s m args below meth c s₁ B hml hv
  obtain ⟨rfl, hC⟩ := hv
  have hx := B.exec
  have hb := B.bytes
  have hr := B.returns
  have hts := atoms_spec (ws := wsX6_stall) B.pre
  have hown : s.vm.findClass RX6 = some m.cls := findClass_of_methodNamed B.named
  have hlk := B.notSynchronized
  have X : CallFix p m c cX6_stall 4 s _ wsX6_stall RX6 := ⟨hx, hb, hml, hown, hts⟩
  have Z := zz_enter hC
  generalize va_A (zg_W XL ad cA σ) sz = A at Z ⊢
  have hl := lv_entry ([.ref (ad 0), .int a1, .int a2, .int a3]) (n := 4) (Nat.le_of_ble_eq_true rfl)
  rw [lg_entry_eq]
  generalize (lg_sl ([.ref (ad 0), .int a1, .int a2, .int a3]) ++ List.replicate (4 - (lg_sl ([.ref (ad 0), .int a1, .int a2, .int a3])).length) Slot.unset).toArray = ls at hl ⊢
  have hl : lv_has ls 4 [(0, .ref (ad 0)), (1, .int a1), (2, .int a2), (3, .int a3)] := hl
  unfold f_X6_stall at hf
  refine lv_iload_n hx hb dX6_stall_0 rfl (lv_at hl 1 rfl) ?_
  refine lv_iconst (v := 0) hx hb dX6_stall_1 (by decide) ?_
  refine lv_iconst (v := 5) hx hb dX6_stall_2 (by decide) ?_
  obtain ⟨r1, σ2, hc3, hf4⟩ := zBd hf
  clear hf
  refine zy_ci (r0 := r1) (WS1 := zg_W XL ad cA σ2) (TYS1 := zg_T XL cA) Z (va_runS (As := [.int a1, .int 0, .int 5]) (rest := []) X (c_X6_within l D V ad cA a1 0 5 σ r1 σ2 hc3 s.heap.size) (va_cwS 3 hts gX6_stall_X6_within rfl rfl rfl zh_X6_within ⟨Nat.le_of_ble_eq_true rfl, Nat.le_of_ble_eq_true rfl⟩) (zz_pS Z) rfl rfl hl.1 rfl (lv_room (Nat.le_of_ble_eq_true rfl)) dX6_stall_3 ⟨Nat.le_of_ble_eq_true rfl, Nat.le_of_ble_eq_true rfl⟩) (fun H5 lo6 Z7 => ?_)
  clear Z hc3
  refine lv_if_eq (tgt := 29) hx hb dX6_stall_6 (by decide) (fun b8 => ?_) (fun b8 => ?_)
  · have hf9 := zYes hf4 b8
    clear hf4
    refine lv_ldc (v := (-1000000001)) hx hb hown (hts _ (zz_m 1 rfl)) dX6_stall_29 ?_
    exact zy_iret X hr hlk Z7 (zEnd hf9) dX6_stall_31
  · have hf10 := zNot hf4 b8
    clear hf4
    refine lv_iload_n hx hb dX6_stall_9 rfl (lv_at hl 2 rfl) ?_
    refine lv_iconst (v := 0) hx hb dX6_stall_10 (by decide) ?_
    refine lv_bipush (v := 11) hx hb dX6_stall_11 (by decide) ?_
    obtain ⟨r11, σ12, hc13, hf14⟩ := zBd hf10
    clear hf10
    refine zy_ci (r0 := r11) (WS1 := zg_W XL ad cA σ12) (TYS1 := zg_T XL cA) Z7 (va_runS (As := [.int a2, .int 0, .int 11]) (rest := []) X (c_X6_within l D V ad cA a2 0 11 σ2 r11 σ12 hc13 H5.size) (va_cwS 3 hts gX6_stall_X6_within rfl rfl rfl zh_X6_within ⟨Nat.le_of_ble_eq_true rfl, Nat.le_of_ble_eq_true rfl⟩) (zz_pS Z7) rfl rfl hl.1 rfl (lv_room (Nat.le_of_ble_eq_true rfl)) dX6_stall_13 ⟨Nat.le_of_ble_eq_true rfl, Nat.le_of_ble_eq_true rfl⟩) (fun H15 lo16 Z17 => ?_)
    clear Z7 hc13
    refine lv_if_eq (tgt := 29) hx hb dX6_stall_16 (by decide) (fun b18 => ?_) (fun b18 => ?_)
    · have hf19 := zYes hf14 b18
      clear hf14
      refine lv_ldc (v := (-1000000001)) hx hb hown (hts _ (zz_m 1 rfl)) dX6_stall_29 ?_
      exact zy_iret X hr hlk Z17 (zEnd hf19) dX6_stall_31
    · have hf20 := zNot hf14 b18
      clear hf14
      refine lv_iload_n hx hb dX6_stall_19 rfl (lv_at hl 3 rfl) ?_
      refine lv_iconst (v := 0) hx hb dX6_stall_20 (by decide) ?_
      refine lv_bipush (v := 99) hx hb dX6_stall_21 (by decide) ?_
      obtain ⟨r21, σ22, hc23, hf24⟩ := zBd hf20
      clear hf20
      refine zy_ci (r0 := r21) (WS1 := zg_W XL ad cA σ22) (TYS1 := zg_T XL cA) Z17 (va_runS (As := [.int a3, .int 0, .int 99]) (rest := []) X (c_X6_within l D V ad cA a3 0 99 σ12 r21 σ22 hc23 H15.size) (va_cwS 3 hts gX6_stall_X6_within rfl rfl rfl zh_X6_within ⟨Nat.le_of_ble_eq_true rfl, Nat.le_of_ble_eq_true rfl⟩) (zz_pS Z17) rfl rfl hl.1 rfl (lv_room (Nat.le_of_ble_eq_true rfl)) dX6_stall_23 ⟨Nat.le_of_ble_eq_true rfl, Nat.le_of_ble_eq_true rfl⟩) (fun H25 lo26 Z27 => ?_)
      clear Z17 hc23
      refine lv_if_ne (tgt := 32) hx hb dX6_stall_26 (by decide) (fun b28 => ?_) (fun b28 => ?_)
      · have hf29 := zNot hf24 b28
        clear hf24
        refine lv_aload_n hx hb dX6_stall_32 rfl (lv_at hl 0 rfl) ?_
        refine zy_get (v := .ref (ad 153)) X Z27 xL_ok xk_0 rfl rfl (fun w h => List.mem_cons_of_mem _ (List.mem_append_left _ (List.mem_append_left _ (List.mem_append_right _ h)))) 1 rfl (zz_m 2 rfl) rfl dX6_stall_33 ?_
        refine zy_get (v := .int (σ22 153 3)) X Z27 xL_ok xk_153 rfl rfl (fun w h => List.mem_cons_of_mem _ (List.mem_append_left _ (List.mem_append_right _ h))) 3 rfl (zz_m 3 rfl) rfl dX6_stall_36 ?_
        refine lv_bipush (v := 9) hx hb dX6_stall_39 (by decide) ?_
        refine lv_icmp_lt (tgt := 47) hx hb dX6_stall_41 (by decide) (fun b30 => ?_) (fun b30 => ?_)
        · have hf31 := zYes hf29 b30
          clear hf29
          refine lv_aload_n hx hb dX6_stall_47 rfl (lv_at hl 0 rfl) ?_
          refine zy_get (v := .ref (ad 153)) X Z27 xL_ok xk_0 rfl rfl (fun w h => List.mem_cons_of_mem _ (List.mem_append_left _ (List.mem_append_left _ (List.mem_append_right _ h)))) 1 rfl (zz_m 2 rfl) rfl dX6_stall_48 ?_
          refine lv_iload_n hx hb dX6_stall_51 rfl (lv_at hl 1 rfl) ?_
          refine lv_iload_n hx hb dX6_stall_52 rfl (lv_at hl 2 rfl) ?_
          refine lv_iload_n hx hb dX6_stall_53 rfl (lv_at hl 3 rfl) ?_
          obtain ⟨r32, σ33, hc34, hf35⟩ := zBd hf31
          clear hf31
          refine zy_ci (r0 := r32) (WS1 := zg_W XL ad cA σ33) (TYS1 := zg_T XL cA) Z27 (va_runV (As := [.int a1, .int a2, .int a3]) (rest := []) X (c_X0_open l D V ad cA 153 a1 a2 a3 xk_153 σ22 r32 σ33 hc34 H25.size) (cwV 3 hts gX6_stall_X0_open rfl rfl rfl ⟨rfl, zh_X0_open⟩ ⟨Nat.le_of_ble_eq_true rfl, Nat.le_of_ble_eq_true rfl⟩) (zy_pV (ci := 0) Z27 xL_ok xk_153 rfl rfl) rfl rfl hl.1 rfl (lv_room (Nat.le_of_ble_eq_true rfl)) dX6_stall_54 ⟨Nat.le_of_ble_eq_true rfl, Nat.le_of_ble_eq_true rfl⟩) (fun H36 lo37 Z38 => ?_)
          clear Z27 hc34
          exact zy_iret X hr hlk Z38 (zEnd hf35) dX6_stall_57
        · have hf39 := zNot hf29 b30
          clear hf29
          refine lv_ldc (v := (-1000000003)) hx hb hown (hts _ (zz_m 4 rfl)) dX6_stall_44 ?_
          exact zy_iret X hr hlk Z27 (zEnd hf39) dX6_stall_46
      · have hf40 := zYes hf24 b28
        clear hf24
        refine lv_ldc (v := (-1000000001)) hx hb hown (hts _ (zz_m 1 rfl)) dX6_stall_29 ?_
        exact zy_iret X hr hlk Z27 (zEnd hf40) dX6_stall_31
def f_X6_tell (a1 : Int32) (σ : zg_S) : Option (Int32 × zg_S) := (if (σ 0 11) < 60 then (if zin (σ 0 11) 60 = true then zlet (zg_up σ 5 (Int32.toNatClampNeg (σ 0 11)) a1) (fun (σ6 : zg_S) => zlet (zg_up σ6 0 11 ((σ6 0 11) + 1)) (fun (σ12 : zg_S) => some (σ12 0 11, σ12))) else none) else some ((-1000000003), σ))
set_option maxHeartbeats 4000000 in
set_option maxRecDepth 100000 in
theorem c_X6_tell (l : Launch) (D : va_G) (V : zz_V) (ad : Nat → Nat) (cA : Nat → ClassId) (a1 : Int32)  (σ : zg_S) (r0 : Int32) (σf : zg_S) (hf : f_X6_tell a1 σ = some (r0, σf)) : zM_I l yX6_tell wsX6_tell 0 0 D V XL ad cA [.ref (ad 0), .int a1] σ r0 σf := by
  intro sz
  refine Met.ofW (cc := cX6_tell) (maxL := 2) (ret := (some .int)) (by decide) rfl ?_
  intro p e s m args below meth c s₁ B hml hv
  obtain ⟨rfl, hC⟩ := hv
  have hx := B.exec
  have hb := B.bytes
  have hr := B.returns
  have hts := atoms_spec (ws := wsX6_tell) B.pre
  have hown : s.vm.findClass RX6 = some m.cls := findClass_of_methodNamed B.named
  have hlk := B.notSynchronized
  have X : CallFix p m c cX6_tell 2 s _ wsX6_tell RX6 := ⟨hx, hb, hml, hown, hts⟩
  have Z := zz_enter hC
  generalize va_A (zg_W XL ad cA σ) sz = A at Z ⊢
  have hl := lv_entry ([.ref (ad 0), .int a1]) (n := 2) (Nat.le_of_ble_eq_true rfl)
  rw [lg_entry_eq]
  generalize (lg_sl ([.ref (ad 0), .int a1]) ++ List.replicate (2 - (lg_sl ([.ref (ad 0), .int a1])).length) Slot.unset).toArray = ls at hl ⊢
  have hl : lv_has ls 2 [(0, .ref (ad 0)), (1, .int a1)] := hl
  unfold f_X6_tell at hf
  refine lv_aload_n hx hb dX6_tell_0 rfl (lv_at hl 0 rfl) ?_
  refine zy_get (v := .int (σ 0 11)) X Z xL_ok xk_0 rfl rfl (fun w h => List.mem_cons_of_mem _ (List.mem_append_right _ h)) 11 rfl (zz_m 1 rfl) rfl dX6_tell_1 ?_
  refine lv_bipush (v := 60) hx hb dX6_tell_4 (by decide) ?_
  refine lv_icmp_lt (tgt := 12) hx hb dX6_tell_6 (by decide) (fun b1 => ?_) (fun b1 => ?_)
  · have hf2 := zYes hf b1
    clear hf
    refine lv_aload_n hx hb dX6_tell_12 rfl (lv_at hl 0 rfl) ?_
    refine zy_get (v := .ref (ad 5)) X Z xL_ok xk_0 rfl rfl (fun w h => List.mem_cons_of_mem _ (List.mem_append_right _ h)) 9 rfl (zz_m 3 rfl) rfl dX6_tell_13 ?_
    refine lv_aload_n hx hb dX6_tell_16 rfl (lv_at hl 0 rfl) ?_
    refine zy_get (v := .int (σ 0 11)) X Z xL_ok xk_0 rfl rfl (fun w h => List.mem_cons_of_mem _ (List.mem_append_right _ h)) 11 rfl (zz_m 1 rfl) rfl dX6_tell_17 ?_
    refine lv_iload_n hx hb dX6_tell_20 rfl (lv_at hl 1 rfl) ?_
    obtain ⟨⟨i3, j4⟩, hf5⟩ := zG hf2
    clear hf2
    obtain ⟨σ6, es7, hf8⟩ := zLet hf5
    clear hf5
    refine zy_ist (σ' := σ6) X Z xL_ok xk_5 xl_5 i3 es7 dX6_tell_21 (fun H9 lo10 Z11 => ?_)
    clear Z es7
    refine lv_aload_n hx hb dX6_tell_22 rfl (lv_at hl 0 rfl) ?_
    refine lv_dup hx hb dX6_tell_23 rfl ?_
    refine zy_get (v := .int (σ6 0 11)) X Z11 xL_ok xk_0 rfl rfl (fun w h => List.mem_cons_of_mem _ (List.mem_append_right _ h)) 11 rfl (zz_m 1 rfl) rfl dX6_tell_24 ?_
    refine lv_iconst (v := 1) hx hb dX6_tell_27 (by decide) ?_
    refine lv_iadd hx hb dX6_tell_28 ?_
    obtain ⟨σ12, es13, hf14⟩ := zLet hf8
    clear hf8
    refine zy_put (v := (σ6 0 11) + 1) (σ' := σ12) X Z11 xL_ok xk_0 rfl rfl (fun w h => List.mem_cons_of_mem _ (List.mem_append_right _ h)) tyX6 tyX6_ok nmX6 11 rfl (zz_m 1 rfl) rfl rfl rfl (fun _ => rfl) (fun _ => rfl) es13 dX6_tell_29 (fun H15 lo16 Z17 => ?_)
    clear Z11 es13
    refine lv_aload_n hx hb dX6_tell_32 rfl (lv_at hl 0 rfl) ?_
    refine zy_get (v := .int (σ12 0 11)) X Z17 xL_ok xk_0 rfl rfl (fun w h => List.mem_cons_of_mem _ (List.mem_append_right _ h)) 11 rfl (zz_m 1 rfl) rfl dX6_tell_33 ?_
    exact zy_iret X hr hlk Z17 (zEnd hf14) dX6_tell_36
  · have hf18 := zNot hf b1
    clear hf
    refine lv_ldc (v := (-1000000003)) hx hb hown (hts _ (zz_m 2 rfl)) dX6_tell_9 ?_
    exact zy_iret X hr hlk Z (zEnd hf18) dX6_tell_11
def f_X6_text  (σ : zg_S) : Option (Int32 × zg_S) := zbd (f_X1_readText (σ 0 10) σ) (fun (r1 : Int32) (σ2 : zg_S) => zlet (zg_up σ2 0 10 0) (fun (σ10 : zg_S) => (if r1 = (-1000000005) then (if (σ10 153 4) < 14 then zbd (f_X0_enact 153 8 σ10) (fun (r20 : Int32) (σ21 : zg_S) => some (r20, σ21)) else some ((-1000000003), σ10)) else some ((-100) - r1, σ10))))
set_option maxHeartbeats 4000000 in
set_option maxRecDepth 100000 in
theorem c_X6_text (l : Launch) (D : va_G) (V : zz_V) (ad : Nat → Nat) (cA : Nat → ClassId)   (σ : zg_S) (r0 : Int32) (σf : zg_S) (hf : f_X6_text  σ = some (r0, σf)) : zM_I l yX6_text wsX6_text 135 3101 D V XL ad cA [.ref (ad 0)] σ r0 σf := by
  intro sz
  refine Met.ofW (cc := cX6_text) (maxL := 2) (ret := (some .int)) (by decide) rfl ?_
  intro p e s m args below meth c s₁ B hml hv
  obtain ⟨rfl, hC⟩ := hv
  have hx := B.exec
  have hb := B.bytes
  have hr := B.returns
  have hts := atoms_spec (ws := wsX6_text) B.pre
  have hown : s.vm.findClass RX6 = some m.cls := findClass_of_methodNamed B.named
  have hlk := B.notSynchronized
  have X : CallFix p m c cX6_text 2 s _ wsX6_text RX6 := ⟨hx, hb, hml, hown, hts⟩
  have Z := zz_enter hC
  generalize va_A (zg_W XL ad cA σ) sz = A at Z ⊢
  have hl := lv_entry ([.ref (ad 0)]) (n := 2) (Nat.le_of_ble_eq_true rfl)
  rw [lg_entry_eq]
  generalize (lg_sl ([.ref (ad 0)]) ++ List.replicate (2 - (lg_sl ([.ref (ad 0)])).length) Slot.unset).toArray = ls at hl ⊢
  have hl : lv_has ls 2 [(0, .ref (ad 0))] := hl
  unfold f_X6_text at hf
  refine lv_aload_n hx hb dX6_text_0 rfl (lv_at hl 0 rfl) ?_
  refine zy_get (v := .ref (ad 7)) X Z xL_ok xk_0 rfl rfl (fun w h => List.mem_cons_of_mem _ (List.mem_append_left _ (List.mem_append_left _ (List.mem_append_left _ (List.mem_append_right _ h))))) 6 rfl (zz_m 1 rfl) rfl dX6_text_1 ?_
  refine lv_aload_n hx hb dX6_text_4 rfl (lv_at hl 0 rfl) ?_
  refine zy_get (v := .int (σ 0 10)) X Z xL_ok xk_0 rfl rfl (fun w h => List.mem_cons_of_mem _ (List.mem_append_left _ (List.mem_append_left _ (List.mem_append_left _ (List.mem_append_right _ h))))) 10 rfl (zz_m 2 rfl) rfl dX6_text_5 ?_
  obtain ⟨r1, σ2, hc3, hf4⟩ := zBd hf
  clear hf
  refine zy_ci (r0 := r1) (WS1 := zg_W XL ad cA σ2) (TYS1 := zg_T XL cA) Z (va_runV (As := [.int (σ 0 10)]) (rest := []) X (c_X1_readText l D V ad cA (σ 0 10) σ r1 σ2 hc3 s.heap.size) (cwV 1 hts gX6_text_X1_readText rfl rfl rfl ⟨rfl, zh_X1_readText⟩ ⟨Nat.le_of_ble_eq_true rfl, Nat.le_of_ble_eq_true rfl⟩) (zy_pV (ci := 1) Z xL_ok xk_7 rfl rfl) rfl rfl hl.1 rfl (lv_room (Nat.le_of_ble_eq_true rfl)) dX6_text_8 ⟨Nat.le_of_ble_eq_true rfl, Nat.le_of_ble_eq_true rfl⟩) (fun H5 lo6 Z7 => ?_)
  clear Z hc3
  refine lv_istore_n (lv' := [(1, .int r1), (0, .ref (ad 0))]) hx hb dX6_text_11 rfl hl (by decide) rfl (fun ls9 hl8 => ?_)
  clear hl
  refine lv_aload_n hx hb dX6_text_12 rfl (lv_at hl8 1 rfl) ?_
  refine lv_iconst (v := 0) hx hb dX6_text_13 (by decide) ?_
  obtain ⟨σ10, es11, hf12⟩ := zLet hf4
  clear hf4
  refine zy_put (v := 0) (σ' := σ10) X Z7 xL_ok xk_0 rfl rfl (fun w h => List.mem_cons_of_mem _ (List.mem_append_left _ (List.mem_append_left _ (List.mem_append_left _ (List.mem_append_right _ h))))) tyX6 tyX6_ok nmX6 10 rfl (zz_m 2 rfl) rfl rfl rfl (fun _ => rfl) (fun _ => rfl) es11 dX6_text_14 (fun H13 lo14 Z15 => ?_)
  clear Z7 es11
  refine lv_iload_n hx hb dX6_text_17 rfl (lv_at hl8 0 rfl) ?_
  refine lv_ldc (v := (-1000000005)) hx hb hown (hts _ (zz_m 3 rfl)) dX6_text_18 ?_
  refine lv_icmp_eq (tgt := 28) hx hb dX6_text_20 (by decide) (fun b16 => ?_) (fun b16 => ?_)
  · have hf17 := zYes hf12 b16
    clear hf12
    refine lv_aload_n hx hb dX6_text_28 rfl (lv_at hl8 1 rfl) ?_
    refine zy_get (v := .ref (ad 153)) X Z15 xL_ok xk_0 rfl rfl (fun w h => List.mem_cons_of_mem _ (List.mem_append_left _ (List.mem_append_left _ (List.mem_append_left _ (List.mem_append_right _ h))))) 1 rfl (zz_m 4 rfl) rfl dX6_text_29 ?_
    refine zy_get (v := .int (σ10 153 4)) X Z15 xL_ok xk_153 rfl rfl (fun w h => List.mem_cons_of_mem _ (List.mem_append_left _ (List.mem_append_left _ (List.mem_append_right _ h)))) 4 rfl (zz_m 5 rfl) rfl dX6_text_32 ?_
    refine lv_bipush (v := 14) hx hb dX6_text_35 (by decide) ?_
    refine lv_icmp_lt (tgt := 43) hx hb dX6_text_37 (by decide) (fun b18 => ?_) (fun b18 => ?_)
    · have hf19 := zYes hf17 b18
      clear hf17
      refine lv_aload_n hx hb dX6_text_43 rfl (lv_at hl8 1 rfl) ?_
      refine zy_get (v := .ref (ad 153)) X Z15 xL_ok xk_0 rfl rfl (fun w h => List.mem_cons_of_mem _ (List.mem_append_left _ (List.mem_append_left _ (List.mem_append_left _ (List.mem_append_right _ h))))) 1 rfl (zz_m 4 rfl) rfl dX6_text_44 ?_
      refine lv_aload_n hx hb dX6_text_47 rfl (lv_at hl8 1 rfl) ?_
      refine zy_get (v := .ref (ad 7)) X Z15 xL_ok xk_0 rfl rfl (fun w h => List.mem_cons_of_mem _ (List.mem_append_left _ (List.mem_append_left _ (List.mem_append_left _ (List.mem_append_right _ h))))) 6 rfl (zz_m 1 rfl) rfl dX6_text_48 ?_
      refine zy_get (v := .ref (ad 8)) X Z15 xL_ok xk_7 rfl rfl (fun w h => List.mem_cons_of_mem _ (List.mem_append_left _ (List.mem_append_right _ h))) 1 rfl (zz_m 7 rfl) rfl dX6_text_51 ?_
      obtain ⟨r20, σ21, hc22, hf23⟩ := zBd hf19
      clear hf19
      refine zy_ci (r0 := r20) (WS1 := zg_W XL ad cA σ21) (TYS1 := zg_T XL cA) Z15 (va_runV (As := [.ref (ad 8)]) (rest := []) X (c_X0_enact l D V ad cA 153 8 xk_153 xk_8 σ10 r20 σ21 hc22 H13.size) (cwV 1 hts gX6_text_X0_enact rfl rfl rfl ⟨rfl, zh_X0_enact⟩ ⟨Nat.le_of_ble_eq_true rfl, Nat.le_of_ble_eq_true rfl⟩) (zy_pV (ci := 0) Z15 xL_ok xk_153 rfl rfl) rfl rfl hl8.1 rfl (lv_room (Nat.le_of_ble_eq_true rfl)) dX6_text_54 ⟨Nat.le_of_ble_eq_true rfl, Nat.le_of_ble_eq_true rfl⟩) (fun H24 lo25 Z26 => ?_)
      clear Z15 hc22
      exact zy_iret X hr hlk Z26 (zEnd hf23) dX6_text_57
    · have hf27 := zNot hf17 b18
      clear hf17
      refine lv_ldc (v := (-1000000003)) hx hb hown (hts _ (zz_m 6 rfl)) dX6_text_40 ?_
      exact zy_iret X hr hlk Z15 (zEnd hf27) dX6_text_42
  · have hf28 := zNot hf12 b16
    clear hf12
    refine lv_bipush (v := (-100)) hx hb dX6_text_23 (by decide) ?_
    refine lv_iload_n hx hb dX6_text_25 rfl (lv_at hl8 0 rfl) ?_
    refine lv_isub hx hb dX6_text_26 ?_
    exact zy_iret X hr hlk Z15 (zEnd hf28) dX6_text_27
def f_X6_textTold (a1 : Int32) (a2 : Int32) (σ : zg_S) : Option (Int32 × zg_S) := zbd (f_X6_within a1 0 ((σ 153 4) - 1) σ) (fun (r1 : Int32) (σ2 : zg_S) => (if r1 = 0 then some ((-1000000001), σ2) else (if a2 = 0 then (if zin a1 14 = true then some (σ2 (11 + 3 * (Int32.toNatClampNeg a1)) 0, σ2) else none) else (if a2 = 1 then (if zin a1 14 = true then some (σ2 (11 + 3 * (Int32.toNatClampNeg a1)) 1, σ2) else none) else some ((-1000000001), σ2)))))
set_option maxHeartbeats 4000000 in
set_option maxRecDepth 100000 in
theorem c_X6_textTold (l : Launch) (D : va_G) (V : zz_V) (ad : Nat → Nat) (cA : Nat → ClassId) (a1 : Int32) (a2 : Int32)  (σ : zg_S) (r0 : Int32) (σf : zg_S) (hf : f_X6_textTold a1 a2 σ = some (r0, σf)) : zM_I l yX6_textTold wsX6_textTold 1 22 D V XL ad cA [.ref (ad 0), .int a1, .int a2] σ r0 σf := by
  intro sz
  refine Met.ofW (cc := cX6_textTold) (maxL := 3) (ret := (some .int)) (by decide) rfl ?_
  intro p e s m args below meth c s₁ B hml hv
  obtain ⟨rfl, hC⟩ := hv
  have hx := B.exec
  have hb := B.bytes
  have hr := B.returns
  have hts := atoms_spec (ws := wsX6_textTold) B.pre
  have hown : s.vm.findClass RX6 = some m.cls := findClass_of_methodNamed B.named
  have hlk := B.notSynchronized
  have X : CallFix p m c cX6_textTold 3 s _ wsX6_textTold RX6 := ⟨hx, hb, hml, hown, hts⟩
  have Z := zz_enter hC
  generalize va_A (zg_W XL ad cA σ) sz = A at Z ⊢
  have hl := lv_entry ([.ref (ad 0), .int a1, .int a2]) (n := 3) (Nat.le_of_ble_eq_true rfl)
  rw [lg_entry_eq]
  generalize (lg_sl ([.ref (ad 0), .int a1, .int a2]) ++ List.replicate (3 - (lg_sl ([.ref (ad 0), .int a1, .int a2])).length) Slot.unset).toArray = ls at hl ⊢
  have hl : lv_has ls 3 [(0, .ref (ad 0)), (1, .int a1), (2, .int a2)] := hl
  unfold f_X6_textTold at hf
  refine lv_iload_n hx hb dX6_textTold_0 rfl (lv_at hl 1 rfl) ?_
  refine lv_iconst (v := 0) hx hb dX6_textTold_1 (by decide) ?_
  refine lv_aload_n hx hb dX6_textTold_2 rfl (lv_at hl 0 rfl) ?_
  refine zy_get (v := .ref (ad 153)) X Z xL_ok xk_0 rfl rfl (fun w h => List.mem_cons_of_mem _ (List.mem_append_left _ (List.mem_append_left _ (List.mem_append_right _ h)))) 1 rfl (zz_m 1 rfl) rfl dX6_textTold_3 ?_
  refine zy_get (v := .int (σ 153 4)) X Z xL_ok xk_153 rfl rfl (fun w h => List.mem_cons_of_mem _ (List.mem_append_left _ (List.mem_append_right _ h))) 4 rfl (zz_m 2 rfl) rfl dX6_textTold_6 ?_
  refine lv_iconst (v := 1) hx hb dX6_textTold_9 (by decide) ?_
  refine lv_isub hx hb dX6_textTold_10 ?_
  obtain ⟨r1, σ2, hc3, hf4⟩ := zBd hf
  clear hf
  refine zy_ci (r0 := r1) (WS1 := zg_W XL ad cA σ2) (TYS1 := zg_T XL cA) Z (va_runS (As := [.int a1, .int 0, .int ((σ 153 4) - 1)]) (rest := []) X (c_X6_within l D V ad cA a1 0 ((σ 153 4) - 1) σ r1 σ2 hc3 s.heap.size) (va_cwS 3 hts gX6_textTold_X6_within rfl rfl rfl zh_X6_within ⟨Nat.le_of_ble_eq_true rfl, Nat.le_of_ble_eq_true rfl⟩) (zz_pS Z) rfl rfl hl.1 rfl (lv_room (Nat.le_of_ble_eq_true rfl)) dX6_textTold_11 ⟨Nat.le_of_ble_eq_true rfl, Nat.le_of_ble_eq_true rfl⟩) (fun H5 lo6 Z7 => ?_)
  clear Z hc3
  refine lv_if_ne (tgt := 20) hx hb dX6_textTold_14 (by decide) (fun b8 => ?_) (fun b8 => ?_)
  · have hf9 := zNot hf4 b8
    clear hf4
    refine lv_iload_n hx hb dX6_textTold_20 rfl (lv_at hl 2 rfl) ?_
    by_cases w10 : a2 = 0
    · have hf11 := zYes hf9 w10
      clear hf9
      refine zz_v w10 ?_
      refine lv_lookup (x := 0) (off := 27) (tgt := 48) hx hb dX6_textTold_21 (by decide) (by decide) (by decide) ?_
      refine lv_aload_n hx hb dX6_textTold_48 rfl (lv_at hl 0 rfl) ?_
      refine zy_get (v := .ref (ad 1)) X Z7 xL_ok xk_0 rfl rfl (fun w h => List.mem_cons_of_mem _ (List.mem_append_left _ (List.mem_append_left _ (List.mem_append_right _ h)))) 0 rfl (zz_m 4 rfl) rfl dX6_textTold_49 ?_
      refine lv_iload_n hx hb dX6_textTold_52 rfl (lv_at hl 1 rfl) ?_
      obtain ⟨⟨i12, j13⟩, hf14⟩ := zG hf11
      clear hf11
      refine zy_ald (v := (11 + 3 * (Int32.toNatClampNeg a1))) (C := RX5) X Z7 xL_ok xk_1 rfl rfl xl_1 rfl i12 rfl dX6_textTold_53 ?_
      refine zy_get (v := .int (σ2 (11 + 3 * (Int32.toNatClampNeg a1)) 0)) X Z7 xL_ok (xT j13) rfl rfl (fun w h => List.mem_cons_of_mem _ (List.mem_append_right _ h)) 0 rfl (zz_m 5 rfl) rfl dX6_textTold_54 ?_
      exact zy_iret X hr hlk Z7 (zEnd hf14) dX6_textTold_57
    · have hf15 := zNot hf9 w10
      clear hf9
      by_cases w16 : a2 = 1
      · have hf17 := zYes hf15 w16
        clear hf15
        refine zz_v w16 ?_
        refine lv_lookup (x := 1) (off := 37) (tgt := 58) hx hb dX6_textTold_21 (by decide) (by decide) (by decide) ?_
        refine lv_aload_n hx hb dX6_textTold_58 rfl (lv_at hl 0 rfl) ?_
        refine zy_get (v := .ref (ad 1)) X Z7 xL_ok xk_0 rfl rfl (fun w h => List.mem_cons_of_mem _ (List.mem_append_left _ (List.mem_append_left _ (List.mem_append_right _ h)))) 0 rfl (zz_m 4 rfl) rfl dX6_textTold_59 ?_
        refine lv_iload_n hx hb dX6_textTold_62 rfl (lv_at hl 1 rfl) ?_
        obtain ⟨⟨i18, j19⟩, hf20⟩ := zG hf17
        clear hf17
        refine zy_ald (v := (11 + 3 * (Int32.toNatClampNeg a1))) (C := RX5) X Z7 xL_ok xk_1 rfl rfl xl_1 rfl i18 rfl dX6_textTold_63 ?_
        refine zy_get (v := .int (σ2 (11 + 3 * (Int32.toNatClampNeg a1)) 1)) X Z7 xL_ok (xT j19) rfl rfl (fun w h => List.mem_cons_of_mem _ (List.mem_append_right _ h)) 1 rfl (zz_m 6 rfl) rfl dX6_textTold_64 ?_
        exact zy_iret X hr hlk Z7 (zEnd hf20) dX6_textTold_67
      · have hf21 := zNot hf15 w16
        clear hf15
        have n22 := zNe (k := 0) (y := 0) (by decide) w10
        have n23 := zNe (k := 1) (y := 1) (by decide) w16
        refine lv_lookup (off := 47) (tgt := 68) hx hb dX6_textTold_21 (by decide) (by simp [Op.lookupswitch.offset, n22, n23, Ne.symm n22, Ne.symm n23]) (by decide) ?_
        refine lv_ldc (v := (-1000000001)) hx hb hown (hts _ (zz_m 3 rfl)) dX6_textTold_68 ?_
        exact zy_iret X hr hlk Z7 (zEnd hf21) dX6_textTold_70
  · have hf24 := zYes hf4 b8
    clear hf4
    refine lv_ldc (v := (-1000000001)) hx hb hown (hts _ (zz_m 3 rfl)) dX6_textTold_17 ?_
    exact zy_iret X hr hlk Z7 (zEnd hf24) dX6_textTold_19
def f_X6_told (a1 : Int32) (a2 : Int32) (σ : zg_S) : Option (Int32 × zg_S) := zbd (f_X6_isStall a1 σ) (fun (r1 : Int32) (σ2 : zg_S) => (if r1 = 0 then some ((-1000000001), σ2) else (if zin a1 9 = true then (if a2 = 0 then some (σ2 (154 + 2 + (Int32.toNatClampNeg a1)) 0, σ2) else (if a2 = 1 then some (σ2 (154 + 2 + (Int32.toNatClampNeg a1)) 1, σ2) else (if a2 = 2 then some (σ2 (154 + 2 + (Int32.toNatClampNeg a1)) 2, σ2) else (if a2 = 3 then some (σ2 (154 + 2 + (Int32.toNatClampNeg a1)) 3, σ2) else (if a2 = 4 then zbd (f_X0_lossOf 153 (154 + 2 + (Int32.toNatClampNeg a1)) σ2) (fun (r29 : Int32) (σ30 : zg_S) => some (r29, σ30)) else (if a2 = 5 then zbd (f_X0_shades 153 (σ2 (154 + 2 + (Int32.toNatClampNeg a1)) 1) σ2) (fun (r39 : Int32) (σ40 : zg_S) => (if r39 = 0 then some (0, σ40) else some (1, σ40))) else (if a2 = 6 then zbd (f_X4_worth (154 + 2 + (Int32.toNatClampNeg a1)) σ2) (fun (r52 : Int32) (σ53 : zg_S) => some (r52, σ53)) else some ((-1000000001), σ2)))))))) else none)))
set_option maxHeartbeats 4000000 in
set_option maxRecDepth 100000 in
theorem c_X6_told (l : Launch) (D : va_G) (V : zz_V) (ad : Nat → Nat) (cA : Nat → ClassId) (a1 : Int32) (a2 : Int32)  (σ : zg_S) (r0 : Int32) (σf : zg_S) (hf : f_X6_told a1 a2 σ = some (r0, σf)) : zM_I l yX6_told wsX6_told 4 92 D V XL ad cA [.ref (ad 0), .int a1, .int a2] σ r0 σf := by
  intro sz
  refine Met.ofW (cc := cX6_told) (maxL := 4) (ret := (some .int)) (by decide) rfl ?_
  intro p e s m args below meth c s₁ B hml hv
  obtain ⟨rfl, hC⟩ := hv
  have hx := B.exec
  have hb := B.bytes
  have hr := B.returns
  have hts := atoms_spec (ws := wsX6_told) B.pre
  have hown : s.vm.findClass RX6 = some m.cls := findClass_of_methodNamed B.named
  have hlk := B.notSynchronized
  have X : CallFix p m c cX6_told 4 s _ wsX6_told RX6 := ⟨hx, hb, hml, hown, hts⟩
  have Z := zz_enter hC
  generalize va_A (zg_W XL ad cA σ) sz = A at Z ⊢
  have hl := lv_entry ([.ref (ad 0), .int a1, .int a2]) (n := 4) (Nat.le_of_ble_eq_true rfl)
  rw [lg_entry_eq]
  generalize (lg_sl ([.ref (ad 0), .int a1, .int a2]) ++ List.replicate (4 - (lg_sl ([.ref (ad 0), .int a1, .int a2])).length) Slot.unset).toArray = ls at hl ⊢
  have hl : lv_has ls 4 [(0, .ref (ad 0)), (1, .int a1), (2, .int a2)] := hl
  unfold f_X6_told at hf
  refine lv_aload_n hx hb dX6_told_0 rfl (lv_at hl 0 rfl) ?_
  refine lv_iload_n hx hb dX6_told_1 rfl (lv_at hl 1 rfl) ?_
  obtain ⟨r1, σ2, hc3, hf4⟩ := zBd hf
  clear hf
  refine zy_ci (r0 := r1) (WS1 := zg_W XL ad cA σ2) (TYS1 := zg_T XL cA) Z (va_runV (As := [.int a1]) (rest := []) X (c_X6_isStall l D V ad cA a1 σ r1 σ2 hc3 s.heap.size) (cwV 1 hts gX6_told_X6_isStall rfl rfl rfl ⟨rfl, zh_X6_isStall⟩ ⟨Nat.le_of_ble_eq_true rfl, Nat.le_of_ble_eq_true rfl⟩) (zy_pV (ci := 6) Z xL_ok xk_0 rfl rfl) rfl rfl hl.1 rfl (lv_room (Nat.le_of_ble_eq_true rfl)) dX6_told_2 ⟨Nat.le_of_ble_eq_true rfl, Nat.le_of_ble_eq_true rfl⟩) (fun H5 lo6 Z7 => ?_)
  clear Z hc3
  refine lv_if_ne (tgt := 11) hx hb dX6_told_5 (by decide) (fun b8 => ?_) (fun b8 => ?_)
  · have hf9 := zNot hf4 b8
    clear hf4
    refine lv_aload_n hx hb dX6_told_11 rfl (lv_at hl 0 rfl) ?_
    refine zy_get (v := .ref (ad 153)) X Z7 xL_ok xk_0 rfl rfl (fun w h => List.mem_cons_of_mem _ (List.mem_append_left _ (List.mem_append_left _ (List.mem_append_left _ (List.mem_append_right _ h))))) 1 rfl (zz_m 2 rfl) rfl dX6_told_12 ?_
    refine zy_get (v := .ref (ad 154)) X Z7 xL_ok xk_153 rfl rfl (fun w h => List.mem_cons_of_mem _ (List.mem_append_left _ (List.mem_append_left _ (List.mem_append_right _ h)))) 1 rfl (zz_m 3 rfl) rfl dX6_told_15 ?_
    refine lv_iload_n hx hb dX6_told_18 rfl (lv_at hl 1 rfl) ?_
    obtain ⟨⟨i10, j11⟩, hf12⟩ := zG hf9
    clear hf9
    refine zy_ald (v := (154 + 2 + (Int32.toNatClampNeg a1))) (C := RX4) X Z7 xL_ok xk_154 rfl rfl xl_154 rfl i10 rfl dX6_told_19 ?_
    refine lv_astore_n (lv' := [(3, .ref (ad (154 + 2 + (Int32.toNatClampNeg a1)))), (0, .ref (ad 0)), (1, .int a1), (2, .int a2)]) hx hb dX6_told_20 rfl hl (by decide) rfl (fun ls14 hl13 => ?_)
    clear hl
    refine lv_iload_n hx hb dX6_told_21 rfl (lv_at hl13 3 rfl) ?_
    by_cases w15 : a2 = 0
    · have hf16 := zYes hf12 w15
      clear hf12
      refine zz_v w15 ?_
      refine lv_tableIn (x := 0) (off := 42) (tgt := 64) hx hb dX6_told_22 (by decide) (by decide) rfl (by decide) ?_
      refine lv_aload_n hx hb dX6_told_64 rfl (lv_at hl13 0 rfl) ?_
      refine zy_get (v := .int (σ2 (154 + 2 + (Int32.toNatClampNeg a1)) 0)) X Z7 xL_ok (xS xk_154 j11) rfl rfl (fun w h => List.mem_cons_of_mem _ (List.mem_append_left _ (List.mem_append_right _ h))) 0 rfl (zz_m 4 rfl) rfl dX6_told_65 ?_
      exact zy_iret X hr hlk Z7 (zEnd hf16) dX6_told_68
    · have hf17 := zNot hf12 w15
      clear hf12
      by_cases w18 : a2 = 1
      · have hf19 := zYes hf17 w18
        clear hf17
        refine zz_v w18 ?_
        refine lv_tableIn (x := 1) (off := 47) (tgt := 69) hx hb dX6_told_22 (by decide) (by decide) rfl (by decide) ?_
        refine lv_aload_n hx hb dX6_told_69 rfl (lv_at hl13 0 rfl) ?_
        refine zy_get (v := .int (σ2 (154 + 2 + (Int32.toNatClampNeg a1)) 1)) X Z7 xL_ok (xS xk_154 j11) rfl rfl (fun w h => List.mem_cons_of_mem _ (List.mem_append_left _ (List.mem_append_right _ h))) 1 rfl (zz_m 5 rfl) rfl dX6_told_70 ?_
        exact zy_iret X hr hlk Z7 (zEnd hf19) dX6_told_73
      · have hf20 := zNot hf17 w18
        clear hf17
        by_cases w21 : a2 = 2
        · have hf22 := zYes hf20 w21
          clear hf20
          refine zz_v w21 ?_
          refine lv_tableIn (x := 2) (off := 52) (tgt := 74) hx hb dX6_told_22 (by decide) (by decide) rfl (by decide) ?_
          refine lv_aload_n hx hb dX6_told_74 rfl (lv_at hl13 0 rfl) ?_
          refine zy_get (v := .int (σ2 (154 + 2 + (Int32.toNatClampNeg a1)) 2)) X Z7 xL_ok (xS xk_154 j11) rfl rfl (fun w h => List.mem_cons_of_mem _ (List.mem_append_left _ (List.mem_append_right _ h))) 2 rfl (zz_m 6 rfl) rfl dX6_told_75 ?_
          exact zy_iret X hr hlk Z7 (zEnd hf22) dX6_told_78
        · have hf23 := zNot hf20 w21
          clear hf20
          by_cases w24 : a2 = 3
          · have hf25 := zYes hf23 w24
            clear hf23
            refine zz_v w24 ?_
            refine lv_tableIn (x := 3) (off := 57) (tgt := 79) hx hb dX6_told_22 (by decide) (by decide) rfl (by decide) ?_
            refine lv_aload_n hx hb dX6_told_79 rfl (lv_at hl13 0 rfl) ?_
            refine zy_get (v := .int (σ2 (154 + 2 + (Int32.toNatClampNeg a1)) 3)) X Z7 xL_ok (xS xk_154 j11) rfl rfl (fun w h => List.mem_cons_of_mem _ (List.mem_append_left _ (List.mem_append_right _ h))) 3 rfl (zz_m 7 rfl) rfl dX6_told_80 ?_
            exact zy_iret X hr hlk Z7 (zEnd hf25) dX6_told_83
          · have hf26 := zNot hf23 w24
            clear hf23
            by_cases w27 : a2 = 4
            · have hf28 := zYes hf26 w27
              clear hf26
              refine zz_v w27 ?_
              refine lv_tableIn (x := 4) (off := 62) (tgt := 84) hx hb dX6_told_22 (by decide) (by decide) rfl (by decide) ?_
              refine lv_aload_n hx hb dX6_told_84 rfl (lv_at hl13 1 rfl) ?_
              refine zy_get (v := .ref (ad 153)) X Z7 xL_ok xk_0 rfl rfl (fun w h => List.mem_cons_of_mem _ (List.mem_append_left _ (List.mem_append_left _ (List.mem_append_left _ (List.mem_append_right _ h))))) 1 rfl (zz_m 2 rfl) rfl dX6_told_85 ?_
              refine lv_aload_n hx hb dX6_told_88 rfl (lv_at hl13 0 rfl) ?_
              obtain ⟨r29, σ30, hc31, hf32⟩ := zBd hf28
              clear hf28
              refine zy_ci (r0 := r29) (WS1 := zg_W XL ad cA σ30) (TYS1 := zg_T XL cA) Z7 (va_runV (As := [.ref (ad (154 + 2 + (Int32.toNatClampNeg a1)))]) (rest := []) X (c_X0_lossOf l D V ad cA 153 (154 + 2 + (Int32.toNatClampNeg a1)) xk_153 (xS xk_154 j11) σ2 r29 σ30 hc31 H5.size) (cwV 1 hts gX6_told_X0_lossOf rfl rfl rfl ⟨rfl, zh_X0_lossOf⟩ ⟨Nat.le_of_ble_eq_true rfl, Nat.le_of_ble_eq_true rfl⟩) (zy_pV (ci := 0) Z7 xL_ok xk_153 rfl rfl) rfl rfl hl13.1 rfl (lv_room (Nat.le_of_ble_eq_true rfl)) dX6_told_89 ⟨Nat.le_of_ble_eq_true rfl, Nat.le_of_ble_eq_true rfl⟩) (fun H33 lo34 Z35 => ?_)
              clear Z7 hc31
              exact zy_iret X hr hlk Z35 (zEnd hf32) dX6_told_92
            · have hf36 := zNot hf26 w27
              clear hf26
              by_cases w37 : a2 = 5
              · have hf38 := zYes hf36 w37
                clear hf36
                refine zz_v w37 ?_
                refine lv_tableIn (x := 5) (off := 71) (tgt := 93) hx hb dX6_told_22 (by decide) (by decide) rfl (by decide) ?_
                refine lv_aload_n hx hb dX6_told_93 rfl (lv_at hl13 1 rfl) ?_
                refine zy_get (v := .ref (ad 153)) X Z7 xL_ok xk_0 rfl rfl (fun w h => List.mem_cons_of_mem _ (List.mem_append_left _ (List.mem_append_left _ (List.mem_append_left _ (List.mem_append_right _ h))))) 1 rfl (zz_m 2 rfl) rfl dX6_told_94 ?_
                refine lv_aload_n hx hb dX6_told_97 rfl (lv_at hl13 0 rfl) ?_
                refine zy_get (v := .int (σ2 (154 + 2 + (Int32.toNatClampNeg a1)) 1)) X Z7 xL_ok (xS xk_154 j11) rfl rfl (fun w h => List.mem_cons_of_mem _ (List.mem_append_left _ (List.mem_append_right _ h))) 1 rfl (zz_m 5 rfl) rfl dX6_told_98 ?_
                obtain ⟨r39, σ40, hc41, hf42⟩ := zBd hf38
                clear hf38
                refine zy_ci (r0 := r39) (WS1 := zg_W XL ad cA σ40) (TYS1 := zg_T XL cA) Z7 (va_runV (As := [.int (σ2 (154 + 2 + (Int32.toNatClampNeg a1)) 1)]) (rest := []) X (c_X0_shades l D V ad cA 153 (σ2 (154 + 2 + (Int32.toNatClampNeg a1)) 1) xk_153 σ2 r39 σ40 hc41 H5.size) (cwV 1 hts gX6_told_X0_shades rfl rfl rfl ⟨rfl, zh_X0_shades⟩ ⟨Nat.le_of_ble_eq_true rfl, Nat.le_of_ble_eq_true rfl⟩) (zy_pV (ci := 0) Z7 xL_ok xk_153 rfl rfl) rfl rfl hl13.1 rfl (lv_room (Nat.le_of_ble_eq_true rfl)) dX6_told_101 ⟨Nat.le_of_ble_eq_true rfl, Nat.le_of_ble_eq_true rfl⟩) (fun H43 lo44 Z45 => ?_)
                clear Z7 hc41
                refine lv_if_eq (tgt := 111) hx hb dX6_told_104 (by decide) (fun b46 => ?_) (fun b46 => ?_)
                · have hf47 := zYes hf42 b46
                  clear hf42
                  refine lv_iconst (v := 0) hx hb dX6_told_111 (by decide) ?_
                  exact zy_iret X hr hlk Z45 (zEnd hf47) dX6_told_112
                · have hf48 := zNot hf42 b46
                  clear hf42
                  refine lv_iconst (v := 1) hx hb dX6_told_107 (by decide) ?_
                  refine lv_goto (tgt := 112) hx hb dX6_told_108 (by decide) ?_
                  exact zy_iret X hr hlk Z45 (zEnd hf48) dX6_told_112
              · have hf49 := zNot hf36 w37
                clear hf36
                by_cases w50 : a2 = 6
                · have hf51 := zYes hf49 w50
                  clear hf49
                  refine zz_v w50 ?_
                  refine lv_tableIn (x := 6) (off := 91) (tgt := 113) hx hb dX6_told_22 (by decide) (by decide) rfl (by decide) ?_
                  refine lv_aload_n hx hb dX6_told_113 rfl (lv_at hl13 0 rfl) ?_
                  obtain ⟨r52, σ53, hc54, hf55⟩ := zBd hf51
                  clear hf51
                  refine zy_ci (r0 := r52) (WS1 := zg_W XL ad cA σ53) (TYS1 := zg_T XL cA) Z7 (va_runV (As := []) (rest := []) X (c_X4_worth l D V ad cA (154 + 2 + (Int32.toNatClampNeg a1)) (xS xk_154 j11) σ2 r52 σ53 hc54 H5.size) (cwV 0 hts gX6_told_X4_worth rfl rfl rfl ⟨rfl, zh_X4_worth⟩ ⟨Nat.le_of_ble_eq_true rfl, Nat.le_of_ble_eq_true rfl⟩) (zy_pV (ci := 4) Z7 xL_ok (xS xk_154 j11) rfl rfl) rfl rfl hl13.1 rfl (lv_room (Nat.le_of_ble_eq_true rfl)) dX6_told_114 ⟨Nat.le_of_ble_eq_true rfl, Nat.le_of_ble_eq_true rfl⟩) (fun H56 lo57 Z58 => ?_)
                  clear Z7 hc54
                  exact zy_iret X hr hlk Z58 (zEnd hf55) dX6_told_117
                · have hf59 := zNot hf49 w50
                  clear hf49
                  have n60 := zNe (k := 0) (y := 0) (by decide) w15
                  have n61 := zNe (k := 1) (y := 1) (by decide) w18
                  have n62 := zNe (k := 2) (y := 2) (by decide) w21
                  have n63 := zNe (k := 3) (y := 3) (by decide) w24
                  have n64 := zNe (k := 4) (y := 4) (by decide) w27
                  have n65 := zNe (k := 5) (y := 5) (by decide) w37
                  have n66 := zNe (k := 6) (y := 6) (by decide) w50
                  refine lv_tableOut (tgt := 118) hx hb dX6_told_22 (by omega) (by decide) ?_
                  refine lv_ldc (v := (-1000000001)) hx hb hown (hts _ (zz_m 1 rfl)) dX6_told_118 ?_
                  exact zy_iret X hr hlk Z7 (zEnd hf59) dX6_told_120
  · have hf67 := zYes hf4 b8
    clear hf4
    refine lv_ldc (v := (-1000000001)) hx hb hown (hts _ (zz_m 1 rfl)) dX6_told_8 ?_
    exact zy_iret X hr hlk Z7 (zEnd hf67) dX6_told_10
def f_X6_trim (a1 : Int32) (σ : zg_S) : Option (Int32 × zg_S) := zbd (f_X6_within a1 0 (σ 0 10) σ) (fun (r1 : Int32) (σ2 : zg_S) => (if r1 = 0 then some ((-1000000001), σ2) else zlet (zg_up σ2 0 10 a1) (fun (σ10 : zg_S) => some (a1, σ10))))
set_option maxHeartbeats 4000000 in
set_option maxRecDepth 100000 in
theorem c_X6_trim (l : Launch) (D : va_G) (V : zz_V) (ad : Nat → Nat) (cA : Nat → ClassId) (a1 : Int32)  (σ : zg_S) (r0 : Int32) (σf : zg_S) (hf : f_X6_trim a1 σ = some (r0, σf)) : zM_I l yX6_trim wsX6_trim 1 22 D V XL ad cA [.ref (ad 0), .int a1] σ r0 σf := by
  intro sz
  refine Met.ofW (cc := cX6_trim) (maxL := 2) (ret := (some .int)) (by decide) rfl ?_
  intro p e s m args below meth c s₁ B hml hv
  obtain ⟨rfl, hC⟩ := hv
  have hx := B.exec
  have hb := B.bytes
  have hr := B.returns
  have hts := atoms_spec (ws := wsX6_trim) B.pre
  have hown : s.vm.findClass RX6 = some m.cls := findClass_of_methodNamed B.named
  have hlk := B.notSynchronized
  have X : CallFix p m c cX6_trim 2 s _ wsX6_trim RX6 := ⟨hx, hb, hml, hown, hts⟩
  have Z := zz_enter hC
  generalize va_A (zg_W XL ad cA σ) sz = A at Z ⊢
  have hl := lv_entry ([.ref (ad 0), .int a1]) (n := 2) (Nat.le_of_ble_eq_true rfl)
  rw [lg_entry_eq]
  generalize (lg_sl ([.ref (ad 0), .int a1]) ++ List.replicate (2 - (lg_sl ([.ref (ad 0), .int a1])).length) Slot.unset).toArray = ls at hl ⊢
  have hl : lv_has ls 2 [(0, .ref (ad 0)), (1, .int a1)] := hl
  unfold f_X6_trim at hf
  refine lv_iload_n hx hb dX6_trim_0 rfl (lv_at hl 1 rfl) ?_
  refine lv_iconst (v := 0) hx hb dX6_trim_1 (by decide) ?_
  refine lv_aload_n hx hb dX6_trim_2 rfl (lv_at hl 0 rfl) ?_
  refine zy_get (v := .int (σ 0 10)) X Z xL_ok xk_0 rfl rfl (fun w h => List.mem_cons_of_mem _ (List.mem_append_right _ h)) 10 rfl (zz_m 1 rfl) rfl dX6_trim_3 ?_
  obtain ⟨r1, σ2, hc3, hf4⟩ := zBd hf
  clear hf
  refine zy_ci (r0 := r1) (WS1 := zg_W XL ad cA σ2) (TYS1 := zg_T XL cA) Z (va_runS (As := [.int a1, .int 0, .int (σ 0 10)]) (rest := []) X (c_X6_within l D V ad cA a1 0 (σ 0 10) σ r1 σ2 hc3 s.heap.size) (va_cwS 3 hts gX6_trim_X6_within rfl rfl rfl zh_X6_within ⟨Nat.le_of_ble_eq_true rfl, Nat.le_of_ble_eq_true rfl⟩) (zz_pS Z) rfl rfl hl.1 rfl (lv_room (Nat.le_of_ble_eq_true rfl)) dX6_trim_6 ⟨Nat.le_of_ble_eq_true rfl, Nat.le_of_ble_eq_true rfl⟩) (fun H5 lo6 Z7 => ?_)
  clear Z hc3
  refine lv_if_ne (tgt := 15) hx hb dX6_trim_9 (by decide) (fun b8 => ?_) (fun b8 => ?_)
  · have hf9 := zNot hf4 b8
    clear hf4
    refine lv_aload_n hx hb dX6_trim_15 rfl (lv_at hl 0 rfl) ?_
    refine lv_iload_n hx hb dX6_trim_16 rfl (lv_at hl 1 rfl) ?_
    obtain ⟨σ10, es11, hf12⟩ := zLet hf9
    clear hf9
    refine zy_put (v := a1) (σ' := σ10) X Z7 xL_ok xk_0 rfl rfl (fun w h => List.mem_cons_of_mem _ (List.mem_append_right _ h)) tyX6 tyX6_ok nmX6 10 rfl (zz_m 1 rfl) rfl rfl rfl (fun _ => rfl) (fun _ => rfl) es11 dX6_trim_17 (fun H13 lo14 Z15 => ?_)
    clear Z7 es11
    refine lv_iload_n hx hb dX6_trim_20 rfl (lv_at hl 1 rfl) ?_
    exact zy_iret X hr hlk Z15 (zEnd hf12) dX6_trim_21
  · have hf16 := zYes hf4 b8
    clear hf4
    refine lv_ldc (v := (-1000000001)) hx hb hown (hts _ (zz_m 2 rfl)) dX6_trim_12 ?_
    exact zy_iret X hr hlk Z7 (zEnd hf16) dX6_trim_14
def f_X6_turns (a1 : Int32) (a2 : Int32) (σ : zg_S) : Option (Int32 × zg_S) := zbd (f_X6_isStall a1 σ) (fun (r1 : Int32) (σ2 : zg_S) => (if r1 = 0 then some ((-1000000001), σ2) else zbd (f_X6_within a2 0 5 σ2) (fun (r11 : Int32) (σ12 : zg_S) => (if r11 = 0 then some ((-1000000001), σ12) else (if zin a1 9 = true then zlet (σ12 (154 + 2 + (Int32.toNatClampNeg a1)) 0) (fun (y25 : Int32) => zlet (zg_up σ12 (154 + 2 + (Int32.toNatClampNeg a1)) 0 a2) (fun (σ30 : zg_S) => some (y25, σ30))) else none)))))
set_option maxHeartbeats 4000000 in
set_option maxRecDepth 100000 in
theorem c_X6_turns (l : Launch) (D : va_G) (V : zz_V) (ad : Nat → Nat) (cA : Nat → ClassId) (a1 : Int32) (a2 : Int32)  (σ : zg_S) (r0 : Int32) (σf : zg_S) (hf : f_X6_turns a1 a2 σ = some (r0, σf)) : zM_I l yX6_turns wsX6_turns 2 43 D V XL ad cA [.ref (ad 0), .int a1, .int a2] σ r0 σf := by
  intro sz
  refine Met.ofW (cc := cX6_turns) (maxL := 5) (ret := (some .int)) (by decide) rfl ?_
  intro p e s m args below meth c s₁ B hml hv
  obtain ⟨rfl, hC⟩ := hv
  have hx := B.exec
  have hb := B.bytes
  have hr := B.returns
  have hts := atoms_spec (ws := wsX6_turns) B.pre
  have hown : s.vm.findClass RX6 = some m.cls := findClass_of_methodNamed B.named
  have hlk := B.notSynchronized
  have X : CallFix p m c cX6_turns 5 s _ wsX6_turns RX6 := ⟨hx, hb, hml, hown, hts⟩
  have Z := zz_enter hC
  generalize va_A (zg_W XL ad cA σ) sz = A at Z ⊢
  have hl := lv_entry ([.ref (ad 0), .int a1, .int a2]) (n := 5) (Nat.le_of_ble_eq_true rfl)
  rw [lg_entry_eq]
  generalize (lg_sl ([.ref (ad 0), .int a1, .int a2]) ++ List.replicate (5 - (lg_sl ([.ref (ad 0), .int a1, .int a2])).length) Slot.unset).toArray = ls at hl ⊢
  have hl : lv_has ls 5 [(0, .ref (ad 0)), (1, .int a1), (2, .int a2)] := hl
  unfold f_X6_turns at hf
  refine lv_aload_n hx hb dX6_turns_0 rfl (lv_at hl 0 rfl) ?_
  refine lv_iload_n hx hb dX6_turns_1 rfl (lv_at hl 1 rfl) ?_
  obtain ⟨r1, σ2, hc3, hf4⟩ := zBd hf
  clear hf
  refine zy_ci (r0 := r1) (WS1 := zg_W XL ad cA σ2) (TYS1 := zg_T XL cA) Z (va_runV (As := [.int a1]) (rest := []) X (c_X6_isStall l D V ad cA a1 σ r1 σ2 hc3 s.heap.size) (cwV 1 hts gX6_turns_X6_isStall rfl rfl rfl ⟨rfl, zh_X6_isStall⟩ ⟨Nat.le_of_ble_eq_true rfl, Nat.le_of_ble_eq_true rfl⟩) (zy_pV (ci := 6) Z xL_ok xk_0 rfl rfl) rfl rfl hl.1 rfl (lv_room (Nat.le_of_ble_eq_true rfl)) dX6_turns_2 ⟨Nat.le_of_ble_eq_true rfl, Nat.le_of_ble_eq_true rfl⟩) (fun H5 lo6 Z7 => ?_)
  clear Z hc3
  refine lv_if_eq (tgt := 17) hx hb dX6_turns_5 (by decide) (fun b8 => ?_) (fun b8 => ?_)
  · have hf9 := zYes hf4 b8
    clear hf4
    refine lv_ldc (v := (-1000000001)) hx hb hown (hts _ (zz_m 1 rfl)) dX6_turns_17 ?_
    exact zy_iret X hr hlk Z7 (zEnd hf9) dX6_turns_19
  · have hf10 := zNot hf4 b8
    clear hf4
    refine lv_iload_n hx hb dX6_turns_8 rfl (lv_at hl 2 rfl) ?_
    refine lv_iconst (v := 0) hx hb dX6_turns_9 (by decide) ?_
    refine lv_iconst (v := 5) hx hb dX6_turns_10 (by decide) ?_
    obtain ⟨r11, σ12, hc13, hf14⟩ := zBd hf10
    clear hf10
    refine zy_ci (r0 := r11) (WS1 := zg_W XL ad cA σ12) (TYS1 := zg_T XL cA) Z7 (va_runS (As := [.int a2, .int 0, .int 5]) (rest := []) X (c_X6_within l D V ad cA a2 0 5 σ2 r11 σ12 hc13 H5.size) (va_cwS 3 hts gX6_turns_X6_within rfl rfl rfl zh_X6_within ⟨Nat.le_of_ble_eq_true rfl, Nat.le_of_ble_eq_true rfl⟩) (zz_pS Z7) rfl rfl hl.1 rfl (lv_room (Nat.le_of_ble_eq_true rfl)) dX6_turns_11 ⟨Nat.le_of_ble_eq_true rfl, Nat.le_of_ble_eq_true rfl⟩) (fun H15 lo16 Z17 => ?_)
    clear Z7 hc13
    refine lv_if_ne (tgt := 20) hx hb dX6_turns_14 (by decide) (fun b18 => ?_) (fun b18 => ?_)
    · have hf19 := zNot hf14 b18
      clear hf14
      refine lv_aload_n hx hb dX6_turns_20 rfl (lv_at hl 0 rfl) ?_
      refine zy_get (v := .ref (ad 153)) X Z17 xL_ok xk_0 rfl rfl (fun w h => List.mem_cons_of_mem _ (List.mem_append_left _ (List.mem_append_left _ (List.mem_append_right _ h)))) 1 rfl (zz_m 2 rfl) rfl dX6_turns_21 ?_
      refine zy_get (v := .ref (ad 154)) X Z17 xL_ok xk_153 rfl rfl (fun w h => List.mem_cons_of_mem _ (List.mem_append_left _ (List.mem_append_right _ h))) 1 rfl (zz_m 3 rfl) rfl dX6_turns_24 ?_
      refine lv_iload_n hx hb dX6_turns_27 rfl (lv_at hl 1 rfl) ?_
      obtain ⟨⟨i20, j21⟩, hf22⟩ := zG hf19
      clear hf19
      refine zy_ald (v := (154 + 2 + (Int32.toNatClampNeg a1))) (C := RX4) X Z17 xL_ok xk_154 rfl rfl xl_154 rfl i20 rfl dX6_turns_28 ?_
      refine lv_astore_n (lv' := [(3, .ref (ad (154 + 2 + (Int32.toNatClampNeg a1)))), (0, .ref (ad 0)), (1, .int a1), (2, .int a2)]) hx hb dX6_turns_29 rfl hl (by decide) rfl (fun ls24 hl23 => ?_)
      clear hl
      refine lv_aload_n hx hb dX6_turns_30 rfl (lv_at hl23 0 rfl) ?_
      refine zy_get (v := .int (σ12 (154 + 2 + (Int32.toNatClampNeg a1)) 0)) X Z17 xL_ok (xS xk_154 j21) rfl rfl (fun w h => List.mem_cons_of_mem _ (List.mem_append_right _ h)) 0 rfl (zz_m 4 rfl) rfl dX6_turns_31 ?_
      obtain ⟨y25, ey26, hf27⟩ := zLet hf22
      clear hf22
      refine zz_v (v := y25) ey26.symm ?_
      clear ey26
      refine lv_istore (lv' := [(4, .int y25), (3, .ref (ad (154 + 2 + (Int32.toNatClampNeg a1)))), (0, .ref (ad 0)), (1, .int a1), (2, .int a2)]) hx hb dX6_turns_34 hl23 (by decide) rfl (fun ls29 hl28 => ?_)
      clear hl23
      refine lv_aload_n hx hb dX6_turns_36 rfl (lv_at hl28 1 rfl) ?_
      refine lv_iload_n hx hb dX6_turns_37 rfl (lv_at hl28 4 rfl) ?_
      obtain ⟨σ30, es31, hf32⟩ := zLet hf27
      clear hf27
      refine zy_put (v := a2) (σ' := σ30) X Z17 xL_ok (xS xk_154 j21) rfl rfl (fun w h => List.mem_cons_of_mem _ (List.mem_append_right _ h)) tyX4 tyX4_ok nmX4 0 rfl (zz_m 4 rfl) rfl rfl rfl (fun _ => rfl) (fun _ => rfl) es31 dX6_turns_38 (fun H33 lo34 Z35 => ?_)
      clear Z17 es31
      refine lv_iload hx hb dX6_turns_41 (lv_at hl28 0 rfl) ?_
      exact zy_iret X hr hlk Z35 (zEnd hf32) dX6_turns_43
    · have hf36 := zYes hf14 b18
      clear hf14
      refine lv_ldc (v := (-1000000001)) hx hb hown (hts _ (zz_m 1 rfl)) dX6_turns_17 ?_
      exact zy_iret X hr hlk Z17 (zEnd hf36) dX6_turns_19
def B_X6_whose_115 (a1 : Int32) (a2 : Int32) (a3 : Int32) (rec54_ : Int32 → Int32 → Int32 → zg_S → Option (Int32 × zg_S)) (x4 : Int32) (x5 : Int32) (x6 : Int32) (σ : zg_S) : Option (Int32 × zg_S) := rec54_ x4 x5 (x6 + 1) σ
def B_X6_whose_54 (a1 : Int32) (a2 : Int32) (a3 : Int32) (rec54_ : Int32 → Int32 → Int32 → zg_S → Option (Int32 × zg_S)) (x4 : Int32) (x5 : Int32) (x6 : Int32) (σ : zg_S) : Option (Int32 × zg_S) := (if 3 ≤ x6 then (if a3 = 0 then some (x4, σ) else some (x5, σ)) else zbd (f_X0_takeOver 165 153 σ) (fun (r9 : Int32) (σ10 : zg_S) => zlet (zg_up σ10 165 9 x6) (fun (σ16 : zg_S) => zbd (f_X6_thinkOn a2 σ16) (fun (r22 : Int32) (σ23 : zg_S) => (if zin a1 4 = true then zbd (f_X0_differencesFrom 165 (53 + 2 * (Int32.toNatClampNeg a1)) σ23) (fun (r32 : Int32) (σ33 : zg_S) => (if x5 ≤ r32 then B_X6_whose_115 a1 a2 a3 rec54_ x4 x5 x6 σ33 else B_X6_whose_115 a1 a2 a3 rec54_ x6 r32 x6 σ33)) else none)))))
def L_X6_whose_54 (a1 : Int32) (a2 : Int32) (a3 : Int32) : Nat → Int32 → Int32 → Int32 → zg_S → Option (Int32 × zg_S) := zfix (fun _ _ _ _ => none) (B_X6_whose_54 a1 a2 a3)
def f_X6_whose (a1 : Int32) (a2 : Int32) (a3 : Int32) (σ : zg_S) : Option (Int32 × zg_S) := zbd (f_X6_isSheet a1 σ) (fun (r48 : Int32) (σ49 : zg_S) => (if r48 = 0 then some ((-1000000001), σ49) else zbd (f_X6_within a2 0 60 σ49) (fun (r58 : Int32) (σ59 : zg_S) => (if r58 = 0 then some ((-1000000001), σ59) else zbd (f_X6_within a3 0 1 σ59) (fun (r68 : Int32) (σ69 : zg_S) => (if r68 = 0 then some ((-1000000001), σ69) else (if zin a1 4 = true then zbd (f_X2_isMissing (53 + 2 * (Int32.toNatClampNeg a1)) σ69) (fun (r80 : Int32) (σ81 : zg_S) => (if r80 = 0 then L_X6_whose_54 a1 a2 a3 zfu 0 2147483647 0 σ81 else some ((-1000000011), σ81))) else none)))))))
set_option maxHeartbeats 4000000 in
set_option maxRecDepth 100000 in
theorem c_X6_whose (l : Launch) (D : va_G) (V : zz_V) (ad : Nat → Nat) (cA : Nat → ClassId) (a1 : Int32) (a2 : Int32) (a3 : Int32)  (σ : zg_S) (r0 : Int32) (σf : zg_S) (hf : f_X6_whose a1 a2 a3 σ = some (r0, σf)) : zM_I l yX6_whose wsX6_whose 7 159 D V XL ad cA [.ref (ad 0), .int a1, .int a2, .int a3] σ r0 σf := by
  intro sz
  refine Met.ofW (cc := cX6_whose) (maxL := 8) (ret := (some .int)) (by decide) rfl ?_
  intro p e s m args below meth c s₁ B hml hv
  obtain ⟨rfl, hC⟩ := hv
  have hx := B.exec
  have hb := B.bytes
  have hr := B.returns
  have hts := atoms_spec (ws := wsX6_whose) B.pre
  have hown : s.vm.findClass RX6 = some m.cls := findClass_of_methodNamed B.named
  have hlk := B.notSynchronized
  have X : CallFix p m c cX6_whose 8 s _ wsX6_whose RX6 := ⟨hx, hb, hml, hown, hts⟩
  have Z := zz_enter hC
  generalize va_A (zg_W XL ad cA σ) sz = A at Z ⊢
  have hl := lv_entry ([.ref (ad 0), .int a1, .int a2, .int a3]) (n := 8) (Nat.le_of_ble_eq_true rfl)
  rw [lg_entry_eq]
  generalize (lg_sl ([.ref (ad 0), .int a1, .int a2, .int a3]) ++ List.replicate (8 - (lg_sl ([.ref (ad 0), .int a1, .int a2, .int a3])).length) Slot.unset).toArray = ls at hl ⊢
  have hl : lv_has ls 8 [(0, .ref (ad 0)), (1, .int a1), (2, .int a2), (3, .int a3)] := hl
  unfold f_X6_whose at hf
  have b54_ : ∀ (k54_ : Nat) (x4 : Int32) (x5 : Int32) (x6 : Int32) (σ : zg_S), L_X6_whose_54 a1 a2 a3 k54_ x4 x5 x6 σ = some (r0, σf) → ∀ (H : Heap) (locs : List Loc) (ls : Array Slot), zz_S D V A s (zg_W XL ad cA σ) (zg_T XL cA) H locs → lv_has ls 8 [(0, .ref (ad 0)), (1, .int a1), (2, .int a2), (3, .int a3), (4, .int x4), (5, .int x5), (6, .int x6)] → W p l e (headSpec wsX6_whose { frames := 7, cells := 0, slots := 0, locals := 159 }).room s m (List.toArray [.ref (ad 0), .int a1, .int a2, .int a3]) below meth c H locs 0 0 (MQ below (va_Qi (fun r (_ : Unit) => r = r0) (fun _ t => zz_B D A (zg_W XL ad cA σf) (zg_T XL cA) t) A) (List.toArray [.ref (ad 0), .int a1, .int a2, .int a3]) s 0 0 A) (F0 m 54 ls []) := by
    intro k54_
    induction k54_ with
    | zero =>
        intro x4 x5 x6 σ hf54_ H54_ locs54_ ls54_ Z54_ hl54_
        exact zNone hf54_
    | succ k54_ ih54_ =>
        intro x4 x5 x6 σ hf54_ H54_ locs54_ ls54_ Z54_ hl54_
        replace hf54_ : B_X6_whose_54 a1 a2 a3 (L_X6_whose_54 a1 a2 a3 k54_) x4 x5 x6 σ = some (r0, σf) := hf54_
        unfold B_X6_whose_54 at hf54_
        have b115_ : ∀ (x4 : Int32) (x5 : Int32) (x6 : Int32) (σ : zg_S), B_X6_whose_115 a1 a2 a3 (L_X6_whose_54 a1 a2 a3 k54_) x4 x5 x6 σ = some (r0, σf) → ∀ (H : Heap) (locs : List Loc) (ls : Array Slot), zz_S D V A s (zg_W XL ad cA σ) (zg_T XL cA) H locs → lv_has ls 8 [(0, .ref (ad 0)), (1, .int a1), (2, .int a2), (3, .int a3), (4, .int x4), (5, .int x5), (6, .int x6)] → W p l e (headSpec wsX6_whose { frames := 7, cells := 0, slots := 0, locals := 159 }).room s m (List.toArray [.ref (ad 0), .int a1, .int a2, .int a3]) below meth c H locs 0 0 (MQ below (va_Qi (fun r (_ : Unit) => r = r0) (fun _ t => zz_B D A (zg_W XL ad cA σf) (zg_T XL cA) t) A) (List.toArray [.ref (ad 0), .int a1, .int a2, .int a3]) s 0 0 A) (F0 m 115 ls []) := by
          intro x4 x5 x6 σ hf115_ H115_ locs115_ ls115_ Z115_ hl115_
          unfold B_X6_whose_115 at hf115_
          refine lv_iinc (v := (x6 + 1)) (lv' := [(6, .int (x6 + 1)), (0, .ref (ad 0)), (1, .int a1), (2, .int a2), (3, .int a3), (4, .int x4), (5, .int x5)]) hx hb dX6_whose_115 hl115_ (k := 6) rfl rfl (by decide) rfl (fun ls2 hl1 => ?_)
          clear hl115_
          refine lv_goto (tgt := 54) hx hb dX6_whose_118 (by decide) ?_
          exact ih54_ x4 x5 (x6 + 1) σ hf115_ _ _ _ Z115_ (lv_sub hl1 [1, 2, 3, 4, 5, 6, 0] rfl)
        refine lv_iload hx hb dX6_whose_54 (lv_at hl54_ 6 rfl) ?_
        refine lv_iconst (v := 3) hx hb dX6_whose_56 (by decide) ?_
        refine lv_icmp_ge (tgt := 121) hx hb dX6_whose_57 (by decide) (fun b3 => ?_) (fun b3 => ?_)
        · have hf4 := zYes hf54_ b3
          clear hf54_
          refine lv_iload_n hx hb dX6_whose_121 rfl (lv_at hl54_ 3 rfl) ?_
          refine lv_if_ne (tgt := 130) hx hb dX6_whose_122 (by decide) (fun b5 => ?_) (fun b5 => ?_)
          · have hf6 := zNot hf4 b5
            clear hf4
            refine lv_iload hx hb dX6_whose_130 (lv_at hl54_ 5 rfl) ?_
            exact zy_iret X hr hlk Z54_ (zEnd hf6) dX6_whose_132
          · have hf7 := zYes hf4 b5
            clear hf4
            refine lv_iload hx hb dX6_whose_125 (lv_at hl54_ 4 rfl) ?_
            refine lv_goto (tgt := 132) hx hb dX6_whose_127 (by decide) ?_
            exact zy_iret X hr hlk Z54_ (zEnd hf7) dX6_whose_132
        · have hf8 := zNot hf54_ b3
          clear hf54_
          refine lv_aload_n hx hb dX6_whose_60 rfl (lv_at hl54_ 0 rfl) ?_
          refine zy_get (v := .ref (ad 165)) X Z54_ xL_ok xk_0 rfl rfl (fun w h => List.mem_cons_of_mem _ (List.mem_append_left _ (List.mem_append_left _ (List.mem_append_left _ (List.mem_append_left _ (List.mem_append_right _ h)))))) 2 rfl (zz_m 5 rfl) rfl dX6_whose_61 ?_
          refine lv_aload_n hx hb dX6_whose_64 rfl (lv_at hl54_ 0 rfl) ?_
          refine zy_get (v := .ref (ad 153)) X Z54_ xL_ok xk_0 rfl rfl (fun w h => List.mem_cons_of_mem _ (List.mem_append_left _ (List.mem_append_left _ (List.mem_append_left _ (List.mem_append_left _ (List.mem_append_right _ h)))))) 1 rfl (zz_m 6 rfl) rfl dX6_whose_65 ?_
          obtain ⟨r9, σ10, hc11, hf12⟩ := zBd hf8
          clear hf8
          refine zy_cv (WS1 := zg_W XL ad cA σ10) (TYS1 := zg_T XL cA) Z54_ (va_runV (As := [.ref (ad 153)]) (rest := []) X (c_X0_takeOver l D V ad cA 165 153 xk_165 xk_153 σ r9 σ10 hc11 H54_.size) (cwV 1 hts gX6_whose_X0_takeOver rfl rfl rfl ⟨rfl, zh_X0_takeOver⟩ ⟨Nat.le_of_ble_eq_true rfl, Nat.le_of_ble_eq_true rfl⟩) (zy_pV (ci := 0) Z54_ xL_ok xk_165 rfl rfl) rfl rfl hl54_.1 rfl (lv_room (Nat.le_of_ble_eq_true rfl)) dX6_whose_68 ⟨Nat.le_of_ble_eq_true rfl, Nat.le_of_ble_eq_true rfl⟩) (fun H13 lo14 Z15 => ?_)
          clear Z54_ hc11
          refine lv_aload_n hx hb dX6_whose_71 rfl (lv_at hl54_ 0 rfl) ?_
          refine zy_get (v := .ref (ad 165)) X Z15 xL_ok xk_0 rfl rfl (fun w h => List.mem_cons_of_mem _ (List.mem_append_left _ (List.mem_append_left _ (List.mem_append_left _ (List.mem_append_left _ (List.mem_append_right _ h)))))) 2 rfl (zz_m 5 rfl) rfl dX6_whose_72 ?_
          refine lv_iload hx hb dX6_whose_75 (lv_at hl54_ 6 rfl) ?_
          obtain ⟨σ16, es17, hf18⟩ := zLet hf12
          clear hf12
          refine zy_put (v := x6) (σ' := σ16) X Z15 xL_ok xk_165 rfl rfl (fun w h => List.mem_cons_of_mem _ (List.mem_append_left _ (List.mem_append_left _ (List.mem_append_left _ (List.mem_append_right _ h))))) tyX0 tyX0_ok nmX0 9 rfl (zz_m 7 rfl) rfl rfl rfl (fun _ => rfl) (fun _ => rfl) es17 dX6_whose_77 (fun H19 lo20 Z21 => ?_)
          clear Z15 es17
          refine lv_aload_n hx hb dX6_whose_80 rfl (lv_at hl54_ 0 rfl) ?_
          refine lv_iload_n hx hb dX6_whose_81 rfl (lv_at hl54_ 2 rfl) ?_
          obtain ⟨r22, σ23, hc24, hf25⟩ := zBd hf18
          clear hf18
          refine zy_cv (WS1 := zg_W XL ad cA σ23) (TYS1 := zg_T XL cA) Z21 (va_runV (As := [.int a2]) (rest := []) X (c_X6_thinkOn l D V ad cA a2 σ16 r22 σ23 hc24 H19.size) (cwV 1 hts gX6_whose_X6_thinkOn rfl rfl rfl ⟨rfl, zh_X6_thinkOn⟩ ⟨Nat.le_of_ble_eq_true rfl, Nat.le_of_ble_eq_true rfl⟩) (zy_pV (ci := 6) Z21 xL_ok xk_0 rfl rfl) rfl rfl hl54_.1 rfl (lv_room (Nat.le_of_ble_eq_true rfl)) dX6_whose_82 ⟨Nat.le_of_ble_eq_true rfl, Nat.le_of_ble_eq_true rfl⟩) (fun H26 lo27 Z28 => ?_)
          clear Z21 hc24
          refine lv_aload_n hx hb dX6_whose_85 rfl (lv_at hl54_ 0 rfl) ?_
          refine zy_get (v := .ref (ad 165)) X Z28 xL_ok xk_0 rfl rfl (fun w h => List.mem_cons_of_mem _ (List.mem_append_left _ (List.mem_append_left _ (List.mem_append_left _ (List.mem_append_left _ (List.mem_append_right _ h)))))) 2 rfl (zz_m 5 rfl) rfl dX6_whose_86 ?_
          refine lv_aload_n hx hb dX6_whose_89 rfl (lv_at hl54_ 0 rfl) ?_
          refine zy_get (v := .ref (ad 3)) X Z28 xL_ok xk_0 rfl rfl (fun w h => List.mem_cons_of_mem _ (List.mem_append_left _ (List.mem_append_left _ (List.mem_append_left _ (List.mem_append_left _ (List.mem_append_right _ h)))))) 7 rfl (zz_m 2 rfl) rfl dX6_whose_90 ?_
          refine lv_iload_n hx hb dX6_whose_93 rfl (lv_at hl54_ 1 rfl) ?_
          obtain ⟨⟨i29, j30⟩, hf31⟩ := zG hf25
          clear hf25
          refine zy_ald (v := (53 + 2 * (Int32.toNatClampNeg a1))) (C := RX2) X Z28 xL_ok xk_3 rfl rfl xl_3 rfl i29 rfl dX6_whose_94 ?_
          obtain ⟨r32, σ33, hc34, hf35⟩ := zBd hf31
          clear hf31
          refine zy_ci (r0 := r32) (WS1 := zg_W XL ad cA σ33) (TYS1 := zg_T XL cA) Z28 (va_runV (As := [.ref (ad (53 + 2 * (Int32.toNatClampNeg a1)))]) (rest := []) X (c_X0_differencesFrom l D V ad cA 165 (53 + 2 * (Int32.toNatClampNeg a1)) xk_165 (xH j30) σ23 r32 σ33 hc34 H26.size) (cwV 1 hts gX6_whose_X0_differencesFrom rfl rfl rfl ⟨rfl, zh_X0_differencesFrom⟩ ⟨Nat.le_of_ble_eq_true rfl, Nat.le_of_ble_eq_true rfl⟩) (zy_pV (ci := 0) Z28 xL_ok xk_165 rfl rfl) rfl rfl hl54_.1 rfl (lv_room (Nat.le_of_ble_eq_true rfl)) dX6_whose_95 ⟨Nat.le_of_ble_eq_true rfl, Nat.le_of_ble_eq_true rfl⟩) (fun H36 lo37 Z38 => ?_)
          clear Z28 hc34
          refine lv_istore (lv' := [(7, .int r32), (0, .ref (ad 0)), (1, .int a1), (2, .int a2), (3, .int a3), (4, .int x4), (5, .int x5), (6, .int x6)]) hx hb dX6_whose_98 hl54_ (by decide) rfl (fun ls40 hl39 => ?_)
          clear hl54_
          refine lv_iload hx hb dX6_whose_100 (lv_at hl39 0 rfl) ?_
          refine lv_iload hx hb dX6_whose_102 (lv_at hl39 6 rfl) ?_
          refine lv_icmp_ge (tgt := 115) hx hb dX6_whose_104 (by decide) (fun b41 => ?_) (fun b41 => ?_)
          · have hf42 := zYes hf35 b41
            clear hf35
            exact b115_ x4 x5 x6 σ33 hf42 _ _ _ Z38 (lv_sub hl39 [1, 2, 3, 4, 5, 6, 7] rfl)
          · have hf43 := zNot hf35 b41
            clear hf35
            refine lv_iload hx hb dX6_whose_107 (lv_at hl39 7 rfl) ?_
            refine lv_istore (lv' := [(4, .int x6), (7, .int r32), (0, .ref (ad 0)), (1, .int a1), (2, .int a2), (3, .int a3), (5, .int x5), (6, .int x6)]) hx hb dX6_whose_109 hl39 (by decide) rfl (fun ls45 hl44 => ?_)
            clear hl39
            refine lv_iload hx hb dX6_whose_111 (lv_at hl44 1 rfl) ?_
            refine lv_istore (lv' := [(5, .int r32), (4, .int x6), (7, .int r32), (0, .ref (ad 0)), (1, .int a1), (2, .int a2), (3, .int a3), (6, .int x6)]) hx hb dX6_whose_113 hl44 (by decide) rfl (fun ls47 hl46 => ?_)
            clear hl44
            exact b115_ x6 r32 x6 σ33 hf43 _ _ _ Z38 (lv_sub hl46 [3, 4, 5, 6, 1, 0, 7] rfl)
  refine lv_iload_n hx hb dX6_whose_0 rfl (lv_at hl 1 rfl) ?_
  obtain ⟨r48, σ49, hc50, hf51⟩ := zBd hf
  clear hf
  refine zy_ci (r0 := r48) (WS1 := zg_W XL ad cA σ49) (TYS1 := zg_T XL cA) Z (va_runS (As := [.int a1]) (rest := []) X (c_X6_isSheet l D V ad cA a1 σ r48 σ49 hc50 s.heap.size) (va_cwS 1 hts gX6_whose_X6_isSheet rfl rfl rfl zh_X6_isSheet ⟨Nat.le_of_ble_eq_true rfl, Nat.le_of_ble_eq_true rfl⟩) (zz_pS Z) rfl rfl hl.1 rfl (lv_room (Nat.le_of_ble_eq_true rfl)) dX6_whose_1 ⟨Nat.le_of_ble_eq_true rfl, Nat.le_of_ble_eq_true rfl⟩) (fun H52 lo53 Z54 => ?_)
  clear Z hc50
  refine lv_if_eq (tgt := 26) hx hb dX6_whose_4 (by decide) (fun b55 => ?_) (fun b55 => ?_)
  · have hf56 := zYes hf51 b55
    clear hf51
    refine lv_ldc (v := (-1000000001)) hx hb hown (hts _ (zz_m 1 rfl)) dX6_whose_26 ?_
    exact zy_iret X hr hlk Z54 (zEnd hf56) dX6_whose_28
  · have hf57 := zNot hf51 b55
    clear hf51
    refine lv_iload_n hx hb dX6_whose_7 rfl (lv_at hl 2 rfl) ?_
    refine lv_iconst (v := 0) hx hb dX6_whose_8 (by decide) ?_
    refine lv_bipush (v := 60) hx hb dX6_whose_9 (by decide) ?_
    obtain ⟨r58, σ59, hc60, hf61⟩ := zBd hf57
    clear hf57
    refine zy_ci (r0 := r58) (WS1 := zg_W XL ad cA σ59) (TYS1 := zg_T XL cA) Z54 (va_runS (As := [.int a2, .int 0, .int 60]) (rest := []) X (c_X6_within l D V ad cA a2 0 60 σ49 r58 σ59 hc60 H52.size) (va_cwS 3 hts gX6_whose_X6_within rfl rfl rfl zh_X6_within ⟨Nat.le_of_ble_eq_true rfl, Nat.le_of_ble_eq_true rfl⟩) (zz_pS Z54) rfl rfl hl.1 rfl (lv_room (Nat.le_of_ble_eq_true rfl)) dX6_whose_11 ⟨Nat.le_of_ble_eq_true rfl, Nat.le_of_ble_eq_true rfl⟩) (fun H62 lo63 Z64 => ?_)
    clear Z54 hc60
    refine lv_if_eq (tgt := 26) hx hb dX6_whose_14 (by decide) (fun b65 => ?_) (fun b65 => ?_)
    · have hf66 := zYes hf61 b65
      clear hf61
      refine lv_ldc (v := (-1000000001)) hx hb hown (hts _ (zz_m 1 rfl)) dX6_whose_26 ?_
      exact zy_iret X hr hlk Z64 (zEnd hf66) dX6_whose_28
    · have hf67 := zNot hf61 b65
      clear hf61
      refine lv_iload_n hx hb dX6_whose_17 rfl (lv_at hl 3 rfl) ?_
      refine lv_iconst (v := 0) hx hb dX6_whose_18 (by decide) ?_
      refine lv_iconst (v := 1) hx hb dX6_whose_19 (by decide) ?_
      obtain ⟨r68, σ69, hc70, hf71⟩ := zBd hf67
      clear hf67
      refine zy_ci (r0 := r68) (WS1 := zg_W XL ad cA σ69) (TYS1 := zg_T XL cA) Z64 (va_runS (As := [.int a3, .int 0, .int 1]) (rest := []) X (c_X6_within l D V ad cA a3 0 1 σ59 r68 σ69 hc70 H62.size) (va_cwS 3 hts gX6_whose_X6_within rfl rfl rfl zh_X6_within ⟨Nat.le_of_ble_eq_true rfl, Nat.le_of_ble_eq_true rfl⟩) (zz_pS Z64) rfl rfl hl.1 rfl (lv_room (Nat.le_of_ble_eq_true rfl)) dX6_whose_20 ⟨Nat.le_of_ble_eq_true rfl, Nat.le_of_ble_eq_true rfl⟩) (fun H72 lo73 Z74 => ?_)
      clear Z64 hc70
      refine lv_if_ne (tgt := 29) hx hb dX6_whose_23 (by decide) (fun b75 => ?_) (fun b75 => ?_)
      · have hf76 := zNot hf71 b75
        clear hf71
        refine lv_aload_n hx hb dX6_whose_29 rfl (lv_at hl 0 rfl) ?_
        refine zy_get (v := .ref (ad 3)) X Z74 xL_ok xk_0 rfl rfl (fun w h => List.mem_cons_of_mem _ (List.mem_append_left _ (List.mem_append_left _ (List.mem_append_left _ (List.mem_append_left _ (List.mem_append_right _ h)))))) 7 rfl (zz_m 2 rfl) rfl dX6_whose_30 ?_
        refine lv_iload_n hx hb dX6_whose_33 rfl (lv_at hl 1 rfl) ?_
        obtain ⟨⟨i77, j78⟩, hf79⟩ := zG hf76
        clear hf76
        refine zy_ald (v := (53 + 2 * (Int32.toNatClampNeg a1))) (C := RX2) X Z74 xL_ok xk_3 rfl rfl xl_3 rfl i77 rfl dX6_whose_34 ?_
        obtain ⟨r80, σ81, hc82, hf83⟩ := zBd hf79
        clear hf79
        refine zy_ci (r0 := r80) (WS1 := zg_W XL ad cA σ81) (TYS1 := zg_T XL cA) Z74 (va_runV (As := []) (rest := []) X (c_X2_isMissing l D V ad cA (53 + 2 * (Int32.toNatClampNeg a1)) (xH j78) σ69 r80 σ81 hc82 H72.size) (cwV 0 hts gX6_whose_X2_isMissing rfl rfl rfl ⟨rfl, zh_X2_isMissing⟩ ⟨Nat.le_of_ble_eq_true rfl, Nat.le_of_ble_eq_true rfl⟩) (zy_pV (ci := 2) Z74 xL_ok (xH j78) rfl rfl) rfl rfl hl.1 rfl (lv_room (Nat.le_of_ble_eq_true rfl)) dX6_whose_35 ⟨Nat.le_of_ble_eq_true rfl, Nat.le_of_ble_eq_true rfl⟩) (fun H84 lo85 Z86 => ?_)
        clear Z74 hc82
        refine lv_if_eq (tgt := 44) hx hb dX6_whose_38 (by decide) (fun b87 => ?_) (fun b87 => ?_)
        · have hf88 := zYes hf83 b87
          clear hf83
          refine lv_iconst (v := 0) hx hb dX6_whose_44 (by decide) ?_
          refine lv_istore (lv' := [(4, .int 0), (0, .ref (ad 0)), (1, .int a1), (2, .int a2), (3, .int a3)]) hx hb dX6_whose_45 hl (by decide) rfl (fun ls90 hl89 => ?_)
          clear hl
          refine lv_ldc (v := 2147483647) hx hb hown (hts _ (zz_m 4 rfl)) dX6_whose_47 ?_
          refine lv_istore (lv' := [(5, .int 2147483647), (4, .int 0), (0, .ref (ad 0)), (1, .int a1), (2, .int a2), (3, .int a3)]) hx hb dX6_whose_49 hl89 (by decide) rfl (fun ls92 hl91 => ?_)
          clear hl89
          refine lv_iconst (v := 0) hx hb dX6_whose_51 (by decide) ?_
          refine lv_istore (lv' := [(6, .int 0), (5, .int 2147483647), (4, .int 0), (0, .ref (ad 0)), (1, .int a1), (2, .int a2), (3, .int a3)]) hx hb dX6_whose_52 hl91 (by decide) rfl (fun ls94 hl93 => ?_)
          clear hl91
          exact b54_ zfu 0 2147483647 0 σ81 hf88 _ _ _ Z86 (lv_sub hl93 [3, 4, 5, 6, 2, 1, 0] rfl)
        · have hf95 := zNot hf83 b87
          clear hf83
          refine lv_ldc (v := (-1000000011)) hx hb hown (hts _ (zz_m 3 rfl)) dX6_whose_41 ?_
          exact zy_iret X hr hlk Z86 (zEnd hf95) dX6_whose_43
      · have hf96 := zYes hf71 b75
        clear hf71
        refine lv_ldc (v := (-1000000001)) hx hb hown (hts _ (zz_m 1 rfl)) dX6_whose_26 ?_
        exact zy_iret X hr hlk Z74 (zEnd hf96) dX6_whose_28
def f_X6_why (a1 : Int32) (σ : zg_S) : Option (Int32 × zg_S) := zbd (f_X6_within a1 0 2 σ) (fun (r1 : Int32) (σ2 : zg_S) => (if r1 = 0 then some ((-1000000001), σ2) else (if zin a1 3 = true then some (σ2 155 (Int32.toNatClampNeg a1), σ2) else none)))
set_option maxHeartbeats 4000000 in
set_option maxRecDepth 100000 in
theorem c_X6_why (l : Launch) (D : va_G) (V : zz_V) (ad : Nat → Nat) (cA : Nat → ClassId) (a1 : Int32)  (σ : zg_S) (r0 : Int32) (σf : zg_S) (hf : f_X6_why a1 σ = some (r0, σf)) : zM_I l yX6_why wsX6_why 1 22 D V XL ad cA [.ref (ad 0), .int a1] σ r0 σf := by
  intro sz
  refine Met.ofW (cc := cX6_why) (maxL := 2) (ret := (some .int)) (by decide) rfl ?_
  intro p e s m args below meth c s₁ B hml hv
  obtain ⟨rfl, hC⟩ := hv
  have hx := B.exec
  have hb := B.bytes
  have hr := B.returns
  have hts := atoms_spec (ws := wsX6_why) B.pre
  have hown : s.vm.findClass RX6 = some m.cls := findClass_of_methodNamed B.named
  have hlk := B.notSynchronized
  have X : CallFix p m c cX6_why 2 s _ wsX6_why RX6 := ⟨hx, hb, hml, hown, hts⟩
  have Z := zz_enter hC
  generalize va_A (zg_W XL ad cA σ) sz = A at Z ⊢
  have hl := lv_entry ([.ref (ad 0), .int a1]) (n := 2) (Nat.le_of_ble_eq_true rfl)
  rw [lg_entry_eq]
  generalize (lg_sl ([.ref (ad 0), .int a1]) ++ List.replicate (2 - (lg_sl ([.ref (ad 0), .int a1])).length) Slot.unset).toArray = ls at hl ⊢
  have hl : lv_has ls 2 [(0, .ref (ad 0)), (1, .int a1)] := hl
  unfold f_X6_why at hf
  refine lv_iload_n hx hb dX6_why_0 rfl (lv_at hl 1 rfl) ?_
  refine lv_iconst (v := 0) hx hb dX6_why_1 (by decide) ?_
  refine lv_iconst (v := 2) hx hb dX6_why_2 (by decide) ?_
  obtain ⟨r1, σ2, hc3, hf4⟩ := zBd hf
  clear hf
  refine zy_ci (r0 := r1) (WS1 := zg_W XL ad cA σ2) (TYS1 := zg_T XL cA) Z (va_runS (As := [.int a1, .int 0, .int 2]) (rest := []) X (c_X6_within l D V ad cA a1 0 2 σ r1 σ2 hc3 s.heap.size) (va_cwS 3 hts gX6_why_X6_within rfl rfl rfl zh_X6_within ⟨Nat.le_of_ble_eq_true rfl, Nat.le_of_ble_eq_true rfl⟩) (zz_pS Z) rfl rfl hl.1 rfl (lv_room (Nat.le_of_ble_eq_true rfl)) dX6_why_3 ⟨Nat.le_of_ble_eq_true rfl, Nat.le_of_ble_eq_true rfl⟩) (fun H5 lo6 Z7 => ?_)
  clear Z hc3
  refine lv_if_eq (tgt := 21) hx hb dX6_why_6 (by decide) (fun b8 => ?_) (fun b8 => ?_)
  · have hf9 := zYes hf4 b8
    clear hf4
    refine lv_ldc (v := (-1000000001)) hx hb hown (hts _ (zz_m 3 rfl)) dX6_why_21 ?_
    exact zy_iret X hr hlk Z7 (zEnd hf9) dX6_why_23
  · have hf10 := zNot hf4 b8
    clear hf4
    refine lv_aload_n hx hb dX6_why_9 rfl (lv_at hl 0 rfl) ?_
    refine zy_get (v := .ref (ad 153)) X Z7 xL_ok xk_0 rfl rfl (fun w h => List.mem_cons_of_mem _ (List.mem_append_left _ (List.mem_append_right _ h))) 1 rfl (zz_m 1 rfl) rfl dX6_why_10 ?_
    refine zy_get (v := .ref (ad 155)) X Z7 xL_ok xk_153 rfl rfl (fun w h => List.mem_cons_of_mem _ (List.mem_append_right _ h)) 2 rfl (zz_m 2 rfl) rfl dX6_why_13 ?_
    refine lv_iload_n hx hb dX6_why_16 rfl (lv_at hl 1 rfl) ?_
    obtain ⟨⟨i11, j12⟩, hf13⟩ := zG hf10
    clear hf10
    refine zy_ild X Z7 xL_ok xk_155 xl_155 i11 dX6_why_17 ?_
    refine lv_goto (tgt := 23) hx hb dX6_why_18 (by decide) ?_
    exact zy_iret X hr hlk Z7 (zEnd hf13) dX6_why_23
def B_X6_wider_26 (a1 : Int32) (a2 : Int32) (rec26_ : Int32 → zg_S → Option (Int32 × zg_S)) (x3 : Int32) (σ : zg_S) : Option (Int32 × zg_S) := (if 6 < x3 then some ((-1000000005), σ) else zbd (f_X0_takeOver 165 153 σ) (fun (r4 : Int32) (σ5 : zg_S) => zbd (f_X0_widen 165 x3 σ5) (fun (r11 : Int32) (σ12 : zg_S) => zbd (f_X6_thinkOn a2 σ12) (fun (r18 : Int32) (σ19 : zg_S) => (if a1 < (σ19 165 11) then rec26_ (x3 + 1) σ19 else some (x3, σ19))))))
def L_X6_wider_26 (a1 : Int32) (a2 : Int32) : Nat → Int32 → zg_S → Option (Int32 × zg_S) := zfix (fun _ _ => none) (B_X6_wider_26 a1 a2)
def f_X6_wider (a1 : Int32) (a2 : Int32) (σ : zg_S) : Option (Int32 × zg_S) := zbd (f_X6_within a1 0 9999 σ) (fun (r30 : Int32) (σ31 : zg_S) => (if r30 = 0 then some ((-1000000001), σ31) else zbd (f_X6_within a2 1 60 σ31) (fun (r40 : Int32) (σ41 : zg_S) => (if r40 = 0 then some ((-1000000001), σ41) else L_X6_wider_26 a1 a2 zfu 1 σ41))))
set_option maxHeartbeats 4000000 in
set_option maxRecDepth 100000 in
theorem c_X6_wider (l : Launch) (D : va_G) (V : zz_V) (ad : Nat → Nat) (cA : Nat → ClassId) (a1 : Int32) (a2 : Int32)  (σ : zg_S) (r0 : Int32) (σf : zg_S) (hf : f_X6_wider a1 a2 σ = some (r0, σf)) : zM_I l yX6_wider wsX6_wider 7 159 D V XL ad cA [.ref (ad 0), .int a1, .int a2] σ r0 σf := by
  intro sz
  refine Met.ofW (cc := cX6_wider) (maxL := 4) (ret := (some .int)) (by decide) rfl ?_
  intro p e s m args below meth c s₁ B hml hv
  obtain ⟨rfl, hC⟩ := hv
  have hx := B.exec
  have hb := B.bytes
  have hr := B.returns
  have hts := atoms_spec (ws := wsX6_wider) B.pre
  have hown : s.vm.findClass RX6 = some m.cls := findClass_of_methodNamed B.named
  have hlk := B.notSynchronized
  have X : CallFix p m c cX6_wider 4 s _ wsX6_wider RX6 := ⟨hx, hb, hml, hown, hts⟩
  have Z := zz_enter hC
  generalize va_A (zg_W XL ad cA σ) sz = A at Z ⊢
  have hl := lv_entry ([.ref (ad 0), .int a1, .int a2]) (n := 4) (Nat.le_of_ble_eq_true rfl)
  rw [lg_entry_eq]
  generalize (lg_sl ([.ref (ad 0), .int a1, .int a2]) ++ List.replicate (4 - (lg_sl ([.ref (ad 0), .int a1, .int a2])).length) Slot.unset).toArray = ls at hl ⊢
  have hl : lv_has ls 4 [(0, .ref (ad 0)), (1, .int a1), (2, .int a2)] := hl
  unfold f_X6_wider at hf
  have b26_ : ∀ (k26_ : Nat) (x3 : Int32) (σ : zg_S), L_X6_wider_26 a1 a2 k26_ x3 σ = some (r0, σf) → ∀ (H : Heap) (locs : List Loc) (ls : Array Slot), zz_S D V A s (zg_W XL ad cA σ) (zg_T XL cA) H locs → lv_has ls 4 [(0, .ref (ad 0)), (1, .int a1), (2, .int a2), (3, .int x3)] → W p l e (headSpec wsX6_wider { frames := 7, cells := 0, slots := 0, locals := 159 }).room s m (List.toArray [.ref (ad 0), .int a1, .int a2]) below meth c H locs 0 0 (MQ below (va_Qi (fun r (_ : Unit) => r = r0) (fun _ t => zz_B D A (zg_W XL ad cA σf) (zg_T XL cA) t) A) (List.toArray [.ref (ad 0), .int a1, .int a2]) s 0 0 A) (F0 m 26 ls []) := by
    intro k26_
    induction k26_ with
    | zero =>
        intro x3 σ hf26_ H26_ locs26_ ls26_ Z26_ hl26_
        exact zNone hf26_
    | succ k26_ ih26_ =>
        intro x3 σ hf26_ H26_ locs26_ ls26_ Z26_ hl26_
        replace hf26_ : B_X6_wider_26 a1 a2 (L_X6_wider_26 a1 a2 k26_) x3 σ = some (r0, σf) := hf26_
        unfold B_X6_wider_26 at hf26_
        refine lv_iload_n hx hb dX6_wider_26 rfl (lv_at hl26_ 3 rfl) ?_
        refine lv_bipush (v := 6) hx hb dX6_wider_27 (by decide) ?_
        refine lv_icmp_gt (tgt := 75) hx hb dX6_wider_29 (by decide) (fun b1 => ?_) (fun b1 => ?_)
        · have hf2 := zYes hf26_ b1
          clear hf26_
          refine lv_ldc (v := (-1000000005)) hx hb hown (hts _ (zz_m 5 rfl)) dX6_wider_75 ?_
          exact zy_iret X hr hlk Z26_ (zEnd hf2) dX6_wider_77
        · have hf3 := zNot hf26_ b1
          clear hf26_
          refine lv_aload_n hx hb dX6_wider_32 rfl (lv_at hl26_ 0 rfl) ?_
          refine zy_get (v := .ref (ad 165)) X Z26_ xL_ok xk_0 rfl rfl (fun w h => List.mem_cons_of_mem _ (List.mem_append_left _ (List.mem_append_left _ (List.mem_append_left _ (List.mem_append_right _ h))))) 2 rfl (zz_m 2 rfl) rfl dX6_wider_33 ?_
          refine lv_aload_n hx hb dX6_wider_36 rfl (lv_at hl26_ 0 rfl) ?_
          refine zy_get (v := .ref (ad 153)) X Z26_ xL_ok xk_0 rfl rfl (fun w h => List.mem_cons_of_mem _ (List.mem_append_left _ (List.mem_append_left _ (List.mem_append_left _ (List.mem_append_right _ h))))) 1 rfl (zz_m 3 rfl) rfl dX6_wider_37 ?_
          obtain ⟨r4, σ5, hc6, hf7⟩ := zBd hf3
          clear hf3
          refine zy_cv (WS1 := zg_W XL ad cA σ5) (TYS1 := zg_T XL cA) Z26_ (va_runV (As := [.ref (ad 153)]) (rest := []) X (c_X0_takeOver l D V ad cA 165 153 xk_165 xk_153 σ r4 σ5 hc6 H26_.size) (cwV 1 hts gX6_wider_X0_takeOver rfl rfl rfl ⟨rfl, zh_X0_takeOver⟩ ⟨Nat.le_of_ble_eq_true rfl, Nat.le_of_ble_eq_true rfl⟩) (zy_pV (ci := 0) Z26_ xL_ok xk_165 rfl rfl) rfl rfl hl26_.1 rfl (lv_room (Nat.le_of_ble_eq_true rfl)) dX6_wider_40 ⟨Nat.le_of_ble_eq_true rfl, Nat.le_of_ble_eq_true rfl⟩) (fun H8 lo9 Z10 => ?_)
          clear Z26_ hc6
          refine lv_aload_n hx hb dX6_wider_43 rfl (lv_at hl26_ 0 rfl) ?_
          refine zy_get (v := .ref (ad 165)) X Z10 xL_ok xk_0 rfl rfl (fun w h => List.mem_cons_of_mem _ (List.mem_append_left _ (List.mem_append_left _ (List.mem_append_left _ (List.mem_append_right _ h))))) 2 rfl (zz_m 2 rfl) rfl dX6_wider_44 ?_
          refine lv_iload_n hx hb dX6_wider_47 rfl (lv_at hl26_ 3 rfl) ?_
          obtain ⟨r11, σ12, hc13, hf14⟩ := zBd hf7
          clear hf7
          refine zy_cv (WS1 := zg_W XL ad cA σ12) (TYS1 := zg_T XL cA) Z10 (va_runV (As := [.int x3]) (rest := []) X (c_X0_widen l D V ad cA 165 x3 xk_165 σ5 r11 σ12 hc13 H8.size) (cwV 1 hts gX6_wider_X0_widen rfl rfl rfl ⟨rfl, zh_X0_widen⟩ ⟨Nat.le_of_ble_eq_true rfl, Nat.le_of_ble_eq_true rfl⟩) (zy_pV (ci := 0) Z10 xL_ok xk_165 rfl rfl) rfl rfl hl26_.1 rfl (lv_room (Nat.le_of_ble_eq_true rfl)) dX6_wider_48 ⟨Nat.le_of_ble_eq_true rfl, Nat.le_of_ble_eq_true rfl⟩) (fun H15 lo16 Z17 => ?_)
          clear Z10 hc13
          refine lv_aload_n hx hb dX6_wider_51 rfl (lv_at hl26_ 0 rfl) ?_
          refine lv_iload_n hx hb dX6_wider_52 rfl (lv_at hl26_ 2 rfl) ?_
          obtain ⟨r18, σ19, hc20, hf21⟩ := zBd hf14
          clear hf14
          refine zy_cv (WS1 := zg_W XL ad cA σ19) (TYS1 := zg_T XL cA) Z17 (va_runV (As := [.int a2]) (rest := []) X (c_X6_thinkOn l D V ad cA a2 σ12 r18 σ19 hc20 H15.size) (cwV 1 hts gX6_wider_X6_thinkOn rfl rfl rfl ⟨rfl, zh_X6_thinkOn⟩ ⟨Nat.le_of_ble_eq_true rfl, Nat.le_of_ble_eq_true rfl⟩) (zy_pV (ci := 6) Z17 xL_ok xk_0 rfl rfl) rfl rfl hl26_.1 rfl (lv_room (Nat.le_of_ble_eq_true rfl)) dX6_wider_53 ⟨Nat.le_of_ble_eq_true rfl, Nat.le_of_ble_eq_true rfl⟩) (fun H22 lo23 Z24 => ?_)
          clear Z17 hc20
          refine lv_aload_n hx hb dX6_wider_56 rfl (lv_at hl26_ 0 rfl) ?_
          refine zy_get (v := .ref (ad 165)) X Z24 xL_ok xk_0 rfl rfl (fun w h => List.mem_cons_of_mem _ (List.mem_append_left _ (List.mem_append_left _ (List.mem_append_left _ (List.mem_append_right _ h))))) 2 rfl (zz_m 2 rfl) rfl dX6_wider_57 ?_
          refine zy_get (v := .int (σ19 165 11)) X Z24 xL_ok xk_165 rfl rfl (fun w h => List.mem_cons_of_mem _ (List.mem_append_left _ (List.mem_append_left _ (List.mem_append_right _ h)))) 11 rfl (zz_m 4 rfl) rfl dX6_wider_60 ?_
          refine lv_iload_n hx hb dX6_wider_63 rfl (lv_at hl26_ 1 rfl) ?_
          refine lv_icmp_gt (tgt := 69) hx hb dX6_wider_64 (by decide) (fun b25 => ?_) (fun b25 => ?_)
          · have hf26 := zYes hf21 b25
            clear hf21
            refine lv_iinc (v := (x3 + 1)) (lv' := [(3, .int (x3 + 1)), (0, .ref (ad 0)), (1, .int a1), (2, .int a2)]) hx hb dX6_wider_69 hl26_ (k := 3) rfl rfl (by decide) rfl (fun ls28 hl27 => ?_)
            clear hl26_
            refine lv_goto (tgt := 26) hx hb dX6_wider_72 (by decide) ?_
            exact ih26_ (x3 + 1) σ19 hf26 _ _ _ Z24 (lv_sub hl27 [1, 2, 3, 0] rfl)
          · have hf29 := zNot hf21 b25
            clear hf21
            refine lv_iload_n hx hb dX6_wider_67 rfl (lv_at hl26_ 3 rfl) ?_
            exact zy_iret X hr hlk Z24 (zEnd hf29) dX6_wider_68
  refine lv_iload_n hx hb dX6_wider_0 rfl (lv_at hl 1 rfl) ?_
  refine lv_iconst (v := 0) hx hb dX6_wider_1 (by decide) ?_
  refine lv_sipush (v := 9999) hx hb dX6_wider_2 (by decide) ?_
  obtain ⟨r30, σ31, hc32, hf33⟩ := zBd hf
  clear hf
  refine zy_ci (r0 := r30) (WS1 := zg_W XL ad cA σ31) (TYS1 := zg_T XL cA) Z (va_runS (As := [.int a1, .int 0, .int 9999]) (rest := []) X (c_X6_within l D V ad cA a1 0 9999 σ r30 σ31 hc32 s.heap.size) (va_cwS 3 hts gX6_wider_X6_within rfl rfl rfl zh_X6_within ⟨Nat.le_of_ble_eq_true rfl, Nat.le_of_ble_eq_true rfl⟩) (zz_pS Z) rfl rfl hl.1 rfl (lv_room (Nat.le_of_ble_eq_true rfl)) dX6_wider_5 ⟨Nat.le_of_ble_eq_true rfl, Nat.le_of_ble_eq_true rfl⟩) (fun H34 lo35 Z36 => ?_)
  clear Z hc32
  refine lv_if_eq (tgt := 21) hx hb dX6_wider_8 (by decide) (fun b37 => ?_) (fun b37 => ?_)
  · have hf38 := zYes hf33 b37
    clear hf33
    refine lv_ldc (v := (-1000000001)) hx hb hown (hts _ (zz_m 1 rfl)) dX6_wider_21 ?_
    exact zy_iret X hr hlk Z36 (zEnd hf38) dX6_wider_23
  · have hf39 := zNot hf33 b37
    clear hf33
    refine lv_iload_n hx hb dX6_wider_11 rfl (lv_at hl 2 rfl) ?_
    refine lv_iconst (v := 1) hx hb dX6_wider_12 (by decide) ?_
    refine lv_bipush (v := 60) hx hb dX6_wider_13 (by decide) ?_
    obtain ⟨r40, σ41, hc42, hf43⟩ := zBd hf39
    clear hf39
    refine zy_ci (r0 := r40) (WS1 := zg_W XL ad cA σ41) (TYS1 := zg_T XL cA) Z36 (va_runS (As := [.int a2, .int 1, .int 60]) (rest := []) X (c_X6_within l D V ad cA a2 1 60 σ31 r40 σ41 hc42 H34.size) (va_cwS 3 hts gX6_wider_X6_within rfl rfl rfl zh_X6_within ⟨Nat.le_of_ble_eq_true rfl, Nat.le_of_ble_eq_true rfl⟩) (zz_pS Z36) rfl rfl hl.1 rfl (lv_room (Nat.le_of_ble_eq_true rfl)) dX6_wider_15 ⟨Nat.le_of_ble_eq_true rfl, Nat.le_of_ble_eq_true rfl⟩) (fun H44 lo45 Z46 => ?_)
    clear Z36 hc42
    refine lv_if_ne (tgt := 24) hx hb dX6_wider_18 (by decide) (fun b47 => ?_) (fun b47 => ?_)
    · have hf48 := zNot hf43 b47
      clear hf43
      refine lv_iconst (v := 1) hx hb dX6_wider_24 (by decide) ?_
      refine lv_istore_n (lv' := [(3, .int 1), (0, .ref (ad 0)), (1, .int a1), (2, .int a2)]) hx hb dX6_wider_25 rfl hl (by decide) rfl (fun ls50 hl49 => ?_)
      clear hl
      exact b26_ zfu 1 σ41 hf48 _ _ _ Z46 (lv_sub hl49 [1, 2, 3, 0] rfl)
    · have hf51 := zYes hf43 b47
      clear hf43
      refine lv_ldc (v := (-1000000001)) hx hb hown (hts _ (zz_m 1 rfl)) dX6_wider_21 ?_
      exact zy_iret X hr hlk Z46 (zEnd hf51) dX6_wider_23
