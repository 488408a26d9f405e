def f_X3_refuses (q0 : Nat) (a1 : Int32) (σ : zg_S) : Option (Int32 × zg_S) := (if (σ q0 0) = 0 then some ((-1000000011), σ) else (if (σ q0 0) = a1 then some (0, σ) else some ((-1000000012), σ)))
set_option maxHeartbeats 4000000 in
set_option maxRecDepth 100000 in
theorem c_X3_refuses (l : Launch) (D : va_G) (V : zz_V) (ad : Nat → Nat) (cA : Nat → ClassId) (q0 : Nat) (a1 : Int32) (hq0 : XL.2.1 q0 = 3) (σ : zg_S) (r0 : Int32) (σf : zg_S) (hf : f_X3_refuses q0 a1 σ = some (r0, σf)) : zM_I l yX3_refuses wsX3_refuses 0 0 D V XL ad cA [.ref (ad q0), .int a1] σ r0 σf := by
  intro sz
  refine Met.ofW (cc := cX3_refuses) (maxL := 2) (ret := (some .int)) (by decide) rfl ?_
  intro p e s m args below meth c s₁ B hml hv
  obtain ⟨rfl, hC⟩ := hv
  have hx := B.exec
  have hb := B.bytes
  have hr := B.returns
  have hts := atoms_spec (ws := wsX3_refuses) B.pre
  have hown : s.vm.findClass RX3 = some m.cls := findClass_of_methodNamed B.named
  have hlk := B.notSynchronized
  have X : CallFix p m c cX3_refuses 2 s _ wsX3_refuses RX3 := ⟨hx, hb, hml, hown, hts⟩
  have Z := zz_enter hC
  generalize va_A (zg_W XL ad cA σ) sz = A at Z ⊢
  have hl := lv_entry ([.ref (ad q0), .int a1]) (n := 2) (Nat.le_of_ble_eq_true rfl)
  rw [lg_entry_eq]
  generalize (lg_sl ([.ref (ad q0), .int a1]) ++ List.replicate (2 - (lg_sl ([.ref (ad q0), .int a1])).length) Slot.unset).toArray = ls at hl ⊢
  have hl : lv_has ls 2 [(0, .ref (ad q0)), (1, .int a1)] := hl
  unfold f_X3_refuses at hf
  refine lv_aload_n hx hb dX3_refuses_0 rfl (lv_at hl 0 rfl) ?_
  refine zy_get (v := .int (σ q0 0)) X Z xL_ok hq0 rfl rfl (fun w h => List.mem_cons_of_mem _ (List.mem_append_right _ h)) 0 rfl (zz_m 1 rfl) rfl dX3_refuses_1 ?_
  refine lv_if_ne (tgt := 10) hx hb dX3_refuses_4 (by decide) (fun b1 => ?_) (fun b1 => ?_)
  · have hf2 := zNot hf b1
    clear hf
    refine lv_aload_n hx hb dX3_refuses_10 rfl (lv_at hl 0 rfl) ?_
    refine zy_get (v := .int (σ q0 0)) X Z xL_ok hq0 rfl rfl (fun w h => List.mem_cons_of_mem _ (List.mem_append_right _ h)) 0 rfl (zz_m 1 rfl) rfl dX3_refuses_11 ?_
    refine lv_iload_n hx hb dX3_refuses_14 rfl (lv_at hl 1 rfl) ?_
    refine lv_icmp_ne (tgt := 22) hx hb dX3_refuses_15 (by decide) (fun b3 => ?_) (fun b3 => ?_)
    · have hf4 := zNot hf2 b3
      clear hf2
      refine lv_ldc (v := (-1000000012)) hx hb hown (hts _ (zz_m 3 rfl)) dX3_refuses_22 ?_
      exact zy_iret X hr hlk Z (zEnd hf4) dX3_refuses_24
    · have hf5 := zYes hf2 b3
      clear hf2
      refine lv_iconst (v := 0) hx hb dX3_refuses_18 (by decide) ?_
      refine lv_goto (tgt := 24) hx hb dX3_refuses_19 (by decide) ?_
      exact zy_iret X hr hlk Z (zEnd hf5) dX3_refuses_24
  · have hf6 := zYes hf b1
    clear hf
    refine lv_ldc (v := (-1000000011)) hx hb hown (hts _ (zz_m 2 rfl)) dX3_refuses_7 ?_
    exact zy_iret X hr hlk Z (zEnd hf6) dX3_refuses_9
def B_X4_isOf_7 (q0 : Nat) (a1 : Int32) (rec7_ : Int32 → Int32 → zg_S → Option (Int32 × zg_S)) (x2 : Int32) (x3 : Int32) (σ : zg_S) : Option (Int32 × zg_S) := (if 6 ≤ x3 then some (0, σ) else zbd (f_X6_within x2 0 5 σ) (fun (r4 : Int32) (σ5 : zg_S) => (if r4 = 0 then some (0, σ5) else (if x2 = a1 then some (1, σ5) else (if zin x2 6 = true then zlet (zz_abv (Int32.toNatClampNeg x2)) (fun (y19 : Int32) => rec7_ y19 (x3 + 1) σ5) else none)))))
def L_X4_isOf_7 (q0 : Nat) (a1 : Int32) : Nat → Int32 → Int32 → zg_S → Option (Int32 × zg_S) := zfix (fun _ _ _ => none) (B_X4_isOf_7 q0 a1)
def f_X4_isOf (q0 : Nat) (a1 : Int32) (σ : zg_S) : Option (Int32 × zg_S) := L_X4_isOf_7 q0 a1 zfu (σ q0 0) 0 σ
set_option maxHeartbeats 4000000 in
set_option maxRecDepth 100000 in
theorem c_X4_isOf (l : Launch) (D : va_G) (V : zz_V) (ad : Nat → Nat) (cA : Nat → ClassId) (q0 : Nat) (a1 : Int32) (hq0 : XL.2.1 q0 = 4) (σ : zg_S) (r0 : Int32) (σf : zg_S) (hf : f_X4_isOf q0 a1 σ = some (r0, σf)) : zM_I l yX4_isOf wsX4_isOf 1 22 D V XL ad cA [.ref (ad q0), .int a1] σ r0 σf := by
  intro sz
  refine Met.ofW (cc := cX4_isOf) (maxL := 4) (ret := (some .boolean)) (by decide) rfl ?_
  intro p e s m args below meth c s₁ B hml hv
  obtain ⟨rfl, hC⟩ := hv
  have hx := B.exec
  have hb := B.bytes
  have hr := B.returns
  have hts := atoms_spec (ws := wsX4_isOf) B.pre
  have hown : s.vm.findClass RX4 = some m.cls := findClass_of_methodNamed B.named
  have hlk := B.notSynchronized
  have X : CallFix p m c cX4_isOf 4 s _ wsX4_isOf RX4 := ⟨hx, hb, hml, hown, hts⟩
  have Z := zz_enter hC
  generalize va_A (zg_W XL ad cA σ) sz = A at Z ⊢
  have hl := lv_entry ([.ref (ad q0), .int a1]) (n := 4) (Nat.le_of_ble_eq_true rfl)
  rw [lg_entry_eq]
  generalize (lg_sl ([.ref (ad q0), .int a1]) ++ List.replicate (4 - (lg_sl ([.ref (ad q0), .int a1])).length) Slot.unset).toArray = ls at hl ⊢
  have hl : lv_has ls 4 [(0, .ref (ad q0)), (1, .int a1)] := hl
  unfold f_X4_isOf at hf
  have b7_ : ∀ (k7_ : Nat) (x2 : Int32) (x3 : Int32) (σ : zg_S), L_X4_isOf_7 q0 a1 k7_ x2 x3 σ = some (r0, σf) → ∀ (H : Heap) (locs : List Loc) (ls : Array Slot), zz_S D V A s (zg_W XL ad cA σ) (zg_T XL cA) H locs → lv_has ls 4 [(1, .int a1), (2, .int x2), (3, .int x3)] → W p l e (headSpec wsX4_isOf { frames := 1, cells := 0, slots := 0, locals := 22 }).room s m (List.toArray [.ref (ad q0), .int a1]) below meth c H locs 0 0 (MQ below (va_Qi (fun r (_ : Unit) => r = r0) (fun _ t => zz_B D A (zg_W XL ad cA σf) (zg_T XL cA) t) A) (List.toArray [.ref (ad q0), .int a1]) s 0 0 A) (F0 m 7 ls []) := by
    intro k7_
    induction k7_ with
    | zero =>
        intro x2 x3 σ hf7_ H7_ locs7_ ls7_ Z7_ hl7_
        exact zNone hf7_
    | succ k7_ ih7_ =>
        intro x2 x3 σ hf7_ H7_ locs7_ ls7_ Z7_ hl7_
        replace hf7_ : B_X4_isOf_7 q0 a1 (L_X4_isOf_7 q0 a1 k7_) x2 x3 σ = some (r0, σf) := hf7_
        unfold B_X4_isOf_7 at hf7_
        refine lv_iload_n hx hb dX4_isOf_7 rfl (lv_at hl7_ 2 rfl) ?_
        refine lv_bipush (v := 6) hx hb dX4_isOf_8 (by decide) ?_
        refine lv_icmp_ge (tgt := 41) hx hb dX4_isOf_10 (by decide) (fun b1 => ?_) (fun b1 => ?_)
        · have hf2 := zYes hf7_ b1
          clear hf7_
          refine lv_iconst (v := 0) hx hb dX4_isOf_41 (by decide) ?_
          exact zy_zret X hr hlk Z7_ (by decide) (zEnd hf2) dX4_isOf_42
        · have hf3 := zNot hf7_ b1
          clear hf7_
          refine lv_iload_n hx hb dX4_isOf_13 rfl (lv_at hl7_ 1 rfl) ?_
          refine lv_iconst (v := 0) hx hb dX4_isOf_14 (by decide) ?_
          refine lv_iconst (v := 5) hx hb dX4_isOf_15 (by decide) ?_
          obtain ⟨r4, σ5, hc6, hf7⟩ := zBd hf3
          clear hf3
          refine zy_ci (r0 := r4) (WS1 := zg_W XL ad cA σ5) (TYS1 := zg_T XL cA) Z7_ (va_runSN (As := [.int x2, .int 0, .int 5]) (rest := []) X (c_X6_within l D V ad cA x2 0 5 σ r4 σ5 hc6 H7_.size) ⟨va_cnB 3 hts gX4_isOf_X6_within_n24 rfl rfl rfl (zz_nw (q := (RX4, 24, yX6_within, RX6)) Z7_.2.2.2.2.2 13 rfl) (hts _ (zz_m 3 rfl)) zh_X6_within ⟨Nat.le_of_ble_eq_true rfl, Nat.le_of_ble_eq_true rfl⟩, hts _ (zz_m 2 rfl), trivial⟩ (zz_pS Z7_) rfl rfl hl7_.1 rfl (lv_room (Nat.le_of_ble_eq_true rfl)) dX4_isOf_16 ⟨Nat.le_of_ble_eq_true rfl, Nat.le_of_ble_eq_true rfl⟩) (fun H8 lo9 Z10 => ?_)
          clear Z7_ hc6
          refine lv_if_eq (tgt := 41) hx hb dX4_isOf_19 (by decide) (fun b11 => ?_) (fun b11 => ?_)
          · have hf12 := zYes hf7 b11
            clear hf7
            refine lv_iconst (v := 0) hx hb dX4_isOf_41 (by decide) ?_
            exact zy_zret X hr hlk Z10 (by decide) (zEnd hf12) dX4_isOf_42
          · have hf13 := zNot hf7 b11
            clear hf7
            refine lv_iload_n hx hb dX4_isOf_22 rfl (lv_at hl7_ 1 rfl) ?_
            refine lv_iload_n hx hb dX4_isOf_23 rfl (lv_at hl7_ 0 rfl) ?_
            refine lv_icmp_ne (tgt := 29) hx hb dX4_isOf_24 (by decide) (fun b14 => ?_) (fun b14 => ?_)
            · have hf15 := zNot hf13 b14
              clear hf13
              refine va_getsN hx hb Z10.2.2.2.2.2.2.2.2.2.1 Z10.2.2.2.1 hown (va_Nw.use rfl Z10.2.2.2.2.2.2.2.2.2.2.2.2.2) (fun _ h => h) dX4_isOf_29 ?_
              refine lv_iload_n hx hb dX4_isOf_32 rfl (lv_at hl7_ 1 rfl) ?_
              obtain ⟨⟨i16, j17⟩, hf18⟩ := zG hf15
              clear hf15
              refine va_ti (v := .int (zz_abv (Int32.toNatClampNeg x2))) hx hb Z10.2.2.2.2.2.2.2.2.2.2.1 Z10.2.2.2.1 i16 rfl dX4_isOf_33 ?_
              obtain ⟨y19, ey20, hf21⟩ := zLet hf18
              clear hf18
              refine zz_v (v := y19) ey20.symm ?_
              clear ey20
              refine lv_istore_n (lv' := [(2, .int y19), (1, .int a1), (3, .int x3)]) hx hb dX4_isOf_34 rfl hl7_ (by decide) rfl (fun ls23 hl22 => ?_)
              clear hl7_
              refine lv_iinc (v := (x3 + 1)) (lv' := [(3, .int (x3 + 1)), (2, .int y19), (1, .int a1)]) hx hb dX4_isOf_35 hl22 (k := 2) rfl rfl (by decide) rfl (fun ls25 hl24 => ?_)
              clear hl22
              refine lv_goto (tgt := 7) hx hb dX4_isOf_38 (by decide) ?_
              exact ih7_ y19 (x3 + 1) σ5 hf21 _ _ _ Z10 (lv_sub hl24 [2, 1, 0] rfl)
            · have hf26 := zYes hf13 b14
              clear hf13
              refine lv_iconst (v := 1) hx hb dX4_isOf_27 (by decide) ?_
              exact zy_zret X hr hlk Z10 (by decide) (zEnd hf26) dX4_isOf_28
  refine lv_aload_n hx hb dX4_isOf_0 rfl (lv_at hl 0 rfl) ?_
  refine zy_get (v := .int (σ q0 0)) X Z xL_ok hq0 rfl rfl (fun w h => List.mem_cons_of_mem _ (List.mem_append_right _ h)) 0 rfl (zz_m 1 rfl) rfl dX4_isOf_1 ?_
  refine lv_istore_n (lv' := [(2, .int (σ q0 0)), (0, .ref (ad q0)), (1, .int a1)]) hx hb dX4_isOf_4 rfl hl (by decide) rfl (fun ls28 hl27 => ?_)
  clear hl
  refine lv_iconst (v := 0) hx hb dX4_isOf_5 (by decide) ?_
  refine lv_istore_n (lv' := [(3, .int 0), (2, .int (σ q0 0)), (0, .ref (ad q0)), (1, .int a1)]) hx hb dX4_isOf_6 rfl hl27 (by decide) rfl (fun ls30 hl29 => ?_)
  clear hl27
  exact b7_ zfu (σ q0 0) 0 σ hf _ _ _ Z (lv_sub hl29 [3, 1, 0] rfl)
def f_X4_worth (q0 : Nat) (σ : zg_S) : Option (Int32 × zg_S) := (if σ q0 0 = 1 then some ((σ q0 3) + 6, σ) else (if σ q0 0 = 2 then some (99 - (σ q0 3), σ) else (if σ q0 0 = 3 then some (2 * ((σ q0 3) + 6), σ) else (if σ q0 0 = 4 then some ((99 - (σ q0 3)) - 8, σ) else (if σ q0 0 = 5 then some (2, σ) else some (σ q0 3, σ))))))
set_option maxHeartbeats 4000000 in
set_option maxRecDepth 100000 in
theorem c_X4_worth (l : Launch) (D : va_G) (V : zz_V) (ad : Nat → Nat) (cA : Nat → ClassId) (q0 : Nat) (hq0 : XL.2.1 q0 = 4) (σ : zg_S) (r0 : Int32) (σf : zg_S) (hf : f_X4_worth q0 σ = some (r0, σf)) : zM_I l yX4_worth wsX4_worth 0 0 D V XL ad cA [.ref (ad q0)] σ r0 σf := by
  intro sz
  refine Met.ofW (cc := cX4_worth) (maxL := 1) (ret := (some .int)) (by decide) rfl ?_
  intro p e s m args below meth c s₁ B hml hv
  obtain ⟨rfl, hC⟩ := hv
  have hx := B.exec
  have hb := B.bytes
  have hr := B.returns
  have hts := atoms_spec (ws := wsX4_worth) B.pre
  have hown : s.vm.findClass RX4 = some m.cls := findClass_of_methodNamed B.named
  have hlk := B.notSynchronized
  have X : CallFix p m c cX4_worth 1 s _ wsX4_worth RX4 := ⟨hx, hb, hml, hown, hts⟩
  have Z := zz_enter hC
  generalize va_A (zg_W XL ad cA σ) sz = A at Z ⊢
  have hl := lv_entry ([.ref (ad q0)]) (n := 1) (Nat.le_of_ble_eq_true rfl)
  rw [lg_entry_eq]
  generalize (lg_sl ([.ref (ad q0)]) ++ List.replicate (1 - (lg_sl ([.ref (ad q0)])).length) Slot.unset).toArray = ls at hl ⊢
  have hl : lv_has ls 1 [(0, .ref (ad q0))] := hl
  unfold f_X4_worth at hf
  refine lv_aload_n hx hb dX4_worth_0 rfl (lv_at hl 0 rfl) ?_
  refine zy_get (v := .int (σ q0 0)) X Z xL_ok hq0 rfl rfl (fun w h => List.mem_cons_of_mem _ (List.mem_append_right _ h)) 0 rfl (zz_m 1 rfl) rfl dX4_worth_1 ?_
  by_cases w1 : σ q0 0 = 1
  · have hf2 := zYes hf w1
    clear hf
    refine zz_v w1 ?_
    refine lv_tableIn (x := 1) (off := 36) (tgt := 40) hx hb dX4_worth_4 (by decide) (by decide) rfl (by decide) ?_
    refine lv_aload_n hx hb dX4_worth_40 rfl (lv_at hl 0 rfl) ?_
    refine zy_get (v := .int (σ q0 3)) X Z xL_ok hq0 rfl rfl (fun w h => List.mem_cons_of_mem _ (List.mem_append_right _ h)) 3 rfl (zz_m 2 rfl) rfl dX4_worth_41 ?_
    refine lv_bipush (v := 6) hx hb dX4_worth_44 (by decide) ?_
    refine lv_iadd hx hb dX4_worth_46 ?_
    exact zy_iret X hr hlk Z (zEnd hf2) dX4_worth_47
  · have hf3 := zNot hf w1
    clear hf
    by_cases w4 : σ q0 0 = 2
    · have hf5 := zYes hf3 w4
      clear hf3
      refine zz_v w4 ?_
      refine lv_tableIn (x := 2) (off := 54) (tgt := 58) hx hb dX4_worth_4 (by decide) (by decide) rfl (by decide) ?_
      refine lv_bipush (v := 99) hx hb dX4_worth_58 (by decide) ?_
      refine lv_aload_n hx hb dX4_worth_60 rfl (lv_at hl 0 rfl) ?_
      refine zy_get (v := .int (σ q0 3)) X Z xL_ok hq0 rfl rfl (fun w h => List.mem_cons_of_mem _ (List.mem_append_right _ h)) 3 rfl (zz_m 2 rfl) rfl dX4_worth_61 ?_
      refine lv_isub hx hb dX4_worth_64 ?_
      exact zy_iret X hr hlk Z (zEnd hf5) dX4_worth_65
    · have hf6 := zNot hf3 w4
      clear hf3
      by_cases w7 : σ q0 0 = 3
      · have hf8 := zYes hf6 w7
        clear hf6
        refine zz_v w7 ?_
        refine lv_tableIn (x := 3) (off := 44) (tgt := 48) hx hb dX4_worth_4 (by decide) (by decide) rfl (by decide) ?_
        refine lv_iconst (v := 2) hx hb dX4_worth_48 (by decide) ?_
        refine lv_aload_n hx hb dX4_worth_49 rfl (lv_at hl 0 rfl) ?_
        refine zy_get (v := .int (σ q0 3)) X Z xL_ok hq0 rfl rfl (fun w h => List.mem_cons_of_mem _ (List.mem_append_right _ h)) 3 rfl (zz_m 2 rfl) rfl dX4_worth_50 ?_
        refine lv_bipush (v := 6) hx hb dX4_worth_53 (by decide) ?_
        refine lv_iadd hx hb dX4_worth_55 ?_
        refine lv_imul hx hb dX4_worth_56 ?_
        exact zy_iret X hr hlk Z (zEnd hf8) dX4_worth_57
      · have hf9 := zNot hf6 w7
        clear hf6
        by_cases w10 : σ q0 0 = 4
        · have hf11 := zYes hf9 w10
          clear hf9
          refine zz_v w10 ?_
          refine lv_tableIn (x := 4) (off := 62) (tgt := 66) hx hb dX4_worth_4 (by decide) (by decide) rfl (by decide) ?_
          refine lv_bipush (v := 99) hx hb dX4_worth_66 (by decide) ?_
          refine lv_aload_n hx hb dX4_worth_68 rfl (lv_at hl 0 rfl) ?_
          refine zy_get (v := .int (σ q0 3)) X Z xL_ok hq0 rfl rfl (fun w h => List.mem_cons_of_mem _ (List.mem_append_right _ h)) 3 rfl (zz_m 2 rfl) rfl dX4_worth_69 ?_
          refine lv_isub hx hb dX4_worth_72 ?_
          refine lv_bipush (v := 8) hx hb dX4_worth_73 (by decide) ?_
          refine lv_isub hx hb dX4_worth_75 ?_
          exact zy_iret X hr hlk Z (zEnd hf11) dX4_worth_76
        · have hf12 := zNot hf9 w10
          clear hf9
          by_cases w13 : σ q0 0 = 5
          · have hf14 := zYes hf12 w13
            clear hf12
            refine zz_v w13 ?_
            refine lv_tableIn (x := 5) (off := 73) (tgt := 77) hx hb dX4_worth_4 (by decide) (by decide) rfl (by decide) ?_
            refine lv_iconst (v := 2) hx hb dX4_worth_77 (by decide) ?_
            exact zy_iret X hr hlk Z (zEnd hf14) dX4_worth_78
          · have hf15 := zNot hf12 w13
            clear hf12
            have n16 := zNe (k := 1) (y := 1) (by decide) w1
            have n17 := zNe (k := 2) (y := 2) (by decide) w4
            have n18 := zNe (k := 3) (y := 3) (by decide) w7
            have n19 := zNe (k := 4) (y := 4) (by decide) w10
            have n20 := zNe (k := 5) (y := 5) (by decide) w13
            refine lv_tableOut (tgt := 79) hx hb dX4_worth_4 (by omega) (by decide) ?_
            refine lv_aload_n hx hb dX4_worth_79 rfl (lv_at hl 0 rfl) ?_
            refine zy_get (v := .int (σ q0 3)) X Z xL_ok hq0 rfl rfl (fun w h => List.mem_cons_of_mem _ (List.mem_append_right _ h)) 3 rfl (zz_m 2 rfl) rfl dX4_worth_80 ?_
            exact zy_iret X hr hlk Z (zEnd hf15) dX4_worth_83
def f_X6_isStall (a1 : Int32) (σ : zg_S) : Option (Int32 × zg_S) := zbd (f_X6_within a1 0 ((σ 153 3) - 1) σ) (fun (r1 : Int32) (σ2 : zg_S) => (if r1 = 0 ∨ r1 = 1 then some (r1, σ2) else none))
set_option maxHeartbeats 4000000 in
set_option maxRecDepth 100000 in
theorem c_X6_isStall (l : Launch) (D : va_G) (V : zz_V) (ad : Nat → Nat) (cA : Nat → ClassId) (a1 : Int32)  (σ : zg_S) (r0 : Int32) (σf : zg_S) (hf : f_X6_isStall a1 σ = some (r0, σf)) : zM_I l yX6_isStall wsX6_isStall 1 22 D V XL ad cA [.ref (ad 0), .int a1] σ r0 σf := by
  intro sz
  refine Met.ofW (cc := cX6_isStall) (maxL := 2) (ret := (some .boolean)) (by decide) rfl ?_
  intro p e s m args below meth c s₁ B hml hv
  obtain ⟨rfl, hC⟩ := hv
  have hx := B.exec
  have hb := B.bytes
  have hr := B.returns
  have hts := atoms_spec (ws := wsX6_isStall) B.pre
  have hown : s.vm.findClass RX6 = some m.cls := findClass_of_methodNamed B.named
  have hlk := B.notSynchronized
  have X : CallFix p m c cX6_isStall 2 s _ wsX6_isStall RX6 := ⟨hx, hb, hml, hown, hts⟩
  have Z := zz_enter hC
  generalize va_A (zg_W XL ad cA σ) sz = A at Z ⊢
  have hl := lv_entry ([.ref (ad 0), .int a1]) (n := 2) (Nat.le_of_ble_eq_true rfl)
  rw [lg_entry_eq]
  generalize (lg_sl ([.ref (ad 0), .int a1]) ++ List.replicate (2 - (lg_sl ([.ref (ad 0), .int a1])).length) Slot.unset).toArray = ls at hl ⊢
  have hl : lv_has ls 2 [(0, .ref (ad 0)), (1, .int a1)] := hl
  unfold f_X6_isStall at hf
  refine lv_iload_n hx hb dX6_isStall_0 rfl (lv_at hl 1 rfl) ?_
  refine lv_iconst (v := 0) hx hb dX6_isStall_1 (by decide) ?_
  refine lv_aload_n hx hb dX6_isStall_2 rfl (lv_at hl 0 rfl) ?_
  refine zy_get (v := .ref (ad 153)) X Z xL_ok xk_0 rfl rfl (fun w h => List.mem_cons_of_mem _ (List.mem_append_left _ (List.mem_append_right _ h))) 1 rfl (zz_m 1 rfl) rfl dX6_isStall_3 ?_
  refine zy_get (v := .int (σ 153 3)) X Z xL_ok xk_153 rfl rfl (fun w h => List.mem_cons_of_mem _ (List.mem_append_right _ h)) 3 rfl (zz_m 2 rfl) rfl dX6_isStall_6 ?_
  refine lv_iconst (v := 1) hx hb dX6_isStall_9 (by decide) ?_
  refine lv_isub hx hb dX6_isStall_10 ?_
  obtain ⟨r1, σ2, hc3, hf4⟩ := zBd hf
  clear hf
  refine zy_ci (r0 := r1) (WS1 := zg_W XL ad cA σ2) (TYS1 := zg_T XL cA) Z (va_runS (As := [.int a1, .int 0, .int ((σ 153 3) - 1)]) (rest := []) X (c_X6_within l D V ad cA a1 0 ((σ 153 3) - 1) σ r1 σ2 hc3 s.heap.size) (va_cwS 3 hts gX6_isStall_X6_within rfl rfl rfl zh_X6_within ⟨Nat.le_of_ble_eq_true rfl, Nat.le_of_ble_eq_true rfl⟩) (zz_pS Z) rfl rfl hl.1 rfl (lv_room (Nat.le_of_ble_eq_true rfl)) dX6_isStall_11 ⟨Nat.le_of_ble_eq_true rfl, Nat.le_of_ble_eq_true rfl⟩) (fun H5 lo6 Z7 => ?_)
  clear Z hc3
  obtain ⟨z9, hf8⟩ := zC hf4
  exact zy_zret X hr hlk Z7 z9 (zEnd hf8) dX6_isStall_14
def f_X6_as (a1 : Int32) (a2 : Int32) (σ : zg_S) : Option (Int32 × zg_S) := zbd (f_X6_isStall a1 σ) (fun (r1 : Int32) (σ2 : zg_S) => (if r1 = 0 then some ((-1000000001), σ2) else zbd (f_X6_within a2 0 5 σ2) (fun (r11 : Int32) (σ12 : zg_S) => (if r11 = 0 then some ((-1000000001), σ12) else (if zin a1 9 = true then zbd (f_X4_isOf (154 + 2 + (Int32.toNatClampNeg a1)) a2 σ12) (fun (r25 : Int32) (σ26 : zg_S) => (if r25 = 0 then some ((-1000000012), σ26) else some (σ26 (154 + 2 + (Int32.toNatClampNeg a1)) 3, σ26))) else none)))))
set_option maxHeartbeats 4000000 in
set_option maxRecDepth 100000 in
theorem c_X6_as (l : Launch) (D : va_G) (V : zz_V) (ad : Nat → Nat) (cA : Nat → ClassId) (a1 : Int32) (a2 : Int32)  (σ : zg_S) (r0 : Int32) (σf : zg_S) (hf : f_X6_as a1 a2 σ = some (r0, σf)) : zM_I l yX6_as wsX6_as 2 45 D V XL ad cA [.ref (ad 0), .int a1, .int a2] σ r0 σf := by
  intro sz
  refine Met.ofW (cc := cX6_as) (maxL := 4) (ret := (some .int)) (by decide) rfl ?_
  intro p e s m args below meth c s₁ B hml hv
  obtain ⟨rfl, hC⟩ := hv
  have hx := B.exec
  have hb := B.bytes
  have hr := B.returns
  have hts := atoms_spec (ws := wsX6_as) B.pre
  have hown : s.vm.findClass RX6 = some m.cls := findClass_of_methodNamed B.named
  have hlk := B.notSynchronized
  have X : CallFix p m c cX6_as 4 s _ wsX6_as RX6 := ⟨hx, hb, hml, hown, hts⟩
  have Z := zz_enter hC
  generalize va_A (zg_W XL ad cA σ) sz = A at Z ⊢
  have hl := lv_entry ([.ref (ad 0), .int a1, .int a2]) (n := 4) (Nat.le_of_ble_eq_true rfl)
  rw [lg_entry_eq]
  generalize (lg_sl ([.ref (ad 0), .int a1, .int a2]) ++ List.replicate (4 - (lg_sl ([.ref (ad 0), .int a1, .int a2])).length) Slot.unset).toArray = ls at hl ⊢
  have hl : lv_has ls 4 [(0, .ref (ad 0)), (1, .int a1), (2, .int a2)] := hl
  unfold f_X6_as at hf
  refine lv_aload_n hx hb dX6_as_0 rfl (lv_at hl 0 rfl) ?_
  refine lv_iload_n hx hb dX6_as_1 rfl (lv_at hl 1 rfl) ?_
  obtain ⟨r1, σ2, hc3, hf4⟩ := zBd hf
  clear hf
  refine zy_ci (r0 := r1) (WS1 := zg_W XL ad cA σ2) (TYS1 := zg_T XL cA) Z (va_runV (As := [.int a1]) (rest := []) X (c_X6_isStall l D V ad cA a1 σ r1 σ2 hc3 s.heap.size) (cwV 1 hts gX6_as_X6_isStall rfl rfl rfl ⟨rfl, zh_X6_isStall⟩ ⟨Nat.le_of_ble_eq_true rfl, Nat.le_of_ble_eq_true rfl⟩) (zy_pV (ci := 6) Z xL_ok xk_0 rfl rfl) rfl rfl hl.1 rfl (lv_room (Nat.le_of_ble_eq_true rfl)) dX6_as_2 ⟨Nat.le_of_ble_eq_true rfl, Nat.le_of_ble_eq_true rfl⟩) (fun H5 lo6 Z7 => ?_)
  clear Z hc3
  refine lv_if_eq (tgt := 17) hx hb dX6_as_5 (by decide) (fun b8 => ?_) (fun b8 => ?_)
  · have hf9 := zYes hf4 b8
    clear hf4
    refine lv_ldc (v := (-1000000001)) hx hb hown (hts _ (zz_m 1 rfl)) dX6_as_17 ?_
    exact zy_iret X hr hlk Z7 (zEnd hf9) dX6_as_19
  · have hf10 := zNot hf4 b8
    clear hf4
    refine lv_iload_n hx hb dX6_as_8 rfl (lv_at hl 2 rfl) ?_
    refine lv_iconst (v := 0) hx hb dX6_as_9 (by decide) ?_
    refine lv_iconst (v := 5) hx hb dX6_as_10 (by decide) ?_
    obtain ⟨r11, σ12, hc13, hf14⟩ := zBd hf10
    clear hf10
    refine zy_ci (r0 := r11) (WS1 := zg_W XL ad cA σ12) (TYS1 := zg_T XL cA) Z7 (va_runS (As := [.int a2, .int 0, .int 5]) (rest := []) X (c_X6_within l D V ad cA a2 0 5 σ2 r11 σ12 hc13 H5.size) (va_cwS 3 hts gX6_as_X6_within rfl rfl rfl zh_X6_within ⟨Nat.le_of_ble_eq_true rfl, Nat.le_of_ble_eq_true rfl⟩) (zz_pS Z7) rfl rfl hl.1 rfl (lv_room (Nat.le_of_ble_eq_true rfl)) dX6_as_11 ⟨Nat.le_of_ble_eq_true rfl, Nat.le_of_ble_eq_true rfl⟩) (fun H15 lo16 Z17 => ?_)
    clear Z7 hc13
    refine lv_if_ne (tgt := 20) hx hb dX6_as_14 (by decide) (fun b18 => ?_) (fun b18 => ?_)
    · have hf19 := zNot hf14 b18
      clear hf14
      refine lv_aload_n hx hb dX6_as_20 rfl (lv_at hl 0 rfl) ?_
      refine zy_get (v := .ref (ad 153)) X Z17 xL_ok xk_0 rfl rfl (fun w h => List.mem_cons_of_mem _ (List.mem_append_left _ (List.mem_append_left _ (List.mem_append_right _ h)))) 1 rfl (zz_m 2 rfl) rfl dX6_as_21 ?_
      refine zy_get (v := .ref (ad 154)) X Z17 xL_ok xk_153 rfl rfl (fun w h => List.mem_cons_of_mem _ (List.mem_append_left _ (List.mem_append_right _ h))) 1 rfl (zz_m 3 rfl) rfl dX6_as_24 ?_
      refine lv_iload_n hx hb dX6_as_27 rfl (lv_at hl 1 rfl) ?_
      obtain ⟨⟨i20, j21⟩, hf22⟩ := zG hf19
      clear hf19
      refine zy_ald (v := (154 + 2 + (Int32.toNatClampNeg a1))) (C := RX4) X Z17 xL_ok xk_154 rfl rfl xl_154 rfl i20 rfl dX6_as_28 ?_
      refine lv_astore_n (lv' := [(3, .ref (ad (154 + 2 + (Int32.toNatClampNeg a1)))), (0, .ref (ad 0)), (1, .int a1), (2, .int a2)]) hx hb dX6_as_29 rfl hl (by decide) rfl (fun ls24 hl23 => ?_)
      clear hl
      refine lv_aload_n hx hb dX6_as_30 rfl (lv_at hl23 0 rfl) ?_
      refine lv_iload_n hx hb dX6_as_31 rfl (lv_at hl23 3 rfl) ?_
      obtain ⟨r25, σ26, hc27, hf28⟩ := zBd hf22
      clear hf22
      refine zy_ci (r0 := r25) (WS1 := zg_W XL ad cA σ26) (TYS1 := zg_T XL cA) Z17 (va_runV (As := [.int a2]) (rest := []) X (c_X4_isOf l D V ad cA (154 + 2 + (Int32.toNatClampNeg a1)) a2 (xS xk_154 j21) σ12 r25 σ26 hc27 H15.size) (cwV 1 hts gX6_as_X4_isOf rfl rfl rfl ⟨rfl, zh_X4_isOf⟩ ⟨Nat.le_of_ble_eq_true rfl, Nat.le_of_ble_eq_true rfl⟩) (zy_pV (ci := 4) Z17 xL_ok (xS xk_154 j21) rfl rfl) rfl rfl hl23.1 rfl (lv_room (Nat.le_of_ble_eq_true rfl)) dX6_as_32 ⟨Nat.le_of_ble_eq_true rfl, Nat.le_of_ble_eq_true rfl⟩) (fun H29 lo30 Z31 => ?_)
      clear Z17 hc27
      refine lv_if_eq (tgt := 45) hx hb dX6_as_35 (by decide) (fun b32 => ?_) (fun b32 => ?_)
      · have hf33 := zYes hf28 b32
        clear hf28
        refine lv_ldc (v := (-1000000012)) hx hb hown (hts _ (zz_m 5 rfl)) dX6_as_45 ?_
        exact zy_iret X hr hlk Z31 (zEnd hf33) dX6_as_47
      · have hf34 := zNot hf28 b32
        clear hf28
        refine lv_aload_n hx hb dX6_as_38 rfl (lv_at hl23 0 rfl) ?_
        refine zy_get (v := .int (σ26 (154 + 2 + (Int32.toNatClampNeg a1)) 3)) X Z31 xL_ok (xS xk_154 j21) rfl rfl (fun w h => List.mem_cons_of_mem _ (List.mem_append_right _ h)) 3 rfl (zz_m 4 rfl) rfl dX6_as_39 ?_
        refine lv_goto (tgt := 47) hx hb dX6_as_42 (by decide) ?_
        exact zy_iret X hr hlk Z31 (zEnd hf34) dX6_as_47
    · have hf35 := zYes hf14 b18
      clear hf14
      refine lv_ldc (v := (-1000000001)) hx hb hown (hts _ (zz_m 1 rfl)) dX6_as_17 ?_
      exact zy_iret X hr hlk Z17 (zEnd hf35) dX6_as_19
def f_X6_isSlot (a0 : Int32) (σ : zg_S) : Option (Int32 × zg_S) := zbd (f_X6_within a0 0 4 σ) (fun (r1 : Int32) (σ2 : zg_S) => (if r1 = 0 ∨ r1 = 1 then some (r1, σ2) else none))
set_option maxHeartbeats 4000000 in
set_option maxRecDepth 100000 in
theorem c_X6_isSlot (l : Launch) (D : va_G) (V : zz_V) (ad : Nat → Nat) (cA : Nat → ClassId) (a0 : Int32)  (σ : zg_S) (r0 : Int32) (σf : zg_S) (hf : f_X6_isSlot a0 σ = some (r0, σf)) : zM_I l yX6_isSlot wsX6_isSlot 1 22 D V XL ad cA [.int a0] σ r0 σf := by
  intro sz
  refine Met.ofW (cc := cX6_isSlot) (maxL := 1) (ret := (some .boolean)) (by decide) rfl ?_
  intro p e s m args below meth c s₁ B hml hv
  obtain ⟨rfl, hC⟩ := hv
  have hx := B.exec
  have hb := B.bytes
  have hr := B.returns
  have hts := atoms_spec (ws := wsX6_isSlot) B.pre
  have hown : s.vm.findClass RX6 = some m.cls := findClass_of_methodNamed B.named
  have hlk := B.notSynchronized
  have X : CallFix p m c cX6_isSlot 1 s _ wsX6_isSlot RX6 := ⟨hx, hb, hml, hown, hts⟩
  have Z := zz_enter hC
  generalize va_A (zg_W XL ad cA σ) sz = A at Z ⊢
  have hl := lv_entry ([.int a0]) (n := 1) (Nat.le_of_ble_eq_true rfl)
  rw [lg_entry_eq]
  generalize (lg_sl ([.int a0]) ++ List.replicate (1 - (lg_sl ([.int a0])).length) Slot.unset).toArray = ls at hl ⊢
  have hl : lv_has ls 1 [(0, .int a0)] := hl
  unfold f_X6_isSlot at hf
  refine lv_iload_n hx hb dX6_isSlot_0 rfl (lv_at hl 0 rfl) ?_
  refine lv_iconst (v := 0) hx hb dX6_isSlot_1 (by decide) ?_
  refine lv_iconst (v := 4) hx hb dX6_isSlot_2 (by decide) ?_
  obtain ⟨r1, σ2, hc3, hf4⟩ := zBd hf
  clear hf
  refine zy_ci (r0 := r1) (WS1 := zg_W XL ad cA σ2) (TYS1 := zg_T XL cA) Z (va_runS (As := [.int a0, .int 0, .int 4]) (rest := []) X (c_X6_within l D V ad cA a0 0 4 σ r1 σ2 hc3 s.heap.size) (va_cwS 3 hts gX6_isSlot_X6_within rfl rfl rfl zh_X6_within ⟨Nat.le_of_ble_eq_true rfl, Nat.le_of_ble_eq_true rfl⟩) (zz_pS Z) rfl rfl hl.1 rfl (lv_room (Nat.le_of_ble_eq_true rfl)) dX6_isSlot_3 ⟨Nat.le_of_ble_eq_true rfl, Nat.le_of_ble_eq_true rfl⟩) (fun H5 lo6 Z7 => ?_)
  clear Z hc3
  obtain ⟨z9, hf8⟩ := zC hf4
  exact zy_zret X hr hlk Z7 z9 (zEnd hf8) dX6_isSlot_6
def f_X6_ask (a1 : Int32) (a2 : Int32) (σ : zg_S) : Option (Int32 × zg_S) := zbd (f_X6_isSlot a1 σ) (fun (r1 : Int32) (σ2 : zg_S) => (if r1 = 0 then some ((-1000000001), σ2) else zbd (f_X6_within a2 0 5 σ2) (fun (r11 : Int32) (σ12 : zg_S) => (if r11 = 0 then some ((-1000000001), σ12) else (if zin a1 5 = true then zbd (f_X3_refuses (61 + 4 * (Int32.toNatClampNeg a1)) 1 σ12) (fun (r23 : Int32) (σ24 : zg_S) => (if r23 = 0 then zbd (f_X4_isOf ((61 + 4 * (Int32.toNatClampNeg a1)) + 1) a2 σ24) (fun (r36 : Int32) (σ37 : zg_S) => (if r36 = 0 then some ((-1000000012), σ37) else zbd (f_X4_worth ((61 + 4 * (Int32.toNatClampNeg a1)) + 1) σ37) (fun (r46 : Int32) (σ47 : zg_S) => some (r46, σ47)))) else some (r23, σ24))) else none)))))
set_option maxHeartbeats 4000000 in
set_option maxRecDepth 100000 in
theorem c_X6_ask (l : Launch) (D : va_G) (V : zz_V) (ad : Nat → Nat) (cA : Nat → ClassId) (a1 : Int32) (a2 : Int32)  (σ : zg_S) (r0 : Int32) (σf : zg_S) (hf : f_X6_ask a1 a2 σ = some (r0, σf)) : zM_I l yX6_ask wsX6_ask 2 45 D V XL ad cA [.ref (ad 0), .int a1, .int a2] σ r0 σf := by
  intro sz
  refine Met.ofW (cc := cX6_ask) (maxL := 5) (ret := (some .int)) (by decide) rfl ?_
  intro p e s m args below meth c s₁ B hml hv
  obtain ⟨rfl, hC⟩ := hv
  have hx := B.exec
  have hb := B.bytes
  have hr := B.returns
  have hts := atoms_spec (ws := wsX6_ask) B.pre
  have hown : s.vm.findClass RX6 = some m.cls := findClass_of_methodNamed B.named
  have hlk := B.notSynchronized
  have X : CallFix p m c cX6_ask 5 s _ wsX6_ask RX6 := ⟨hx, hb, hml, hown, hts⟩
  have Z := zz_enter hC
  generalize va_A (zg_W XL ad cA σ) sz = A at Z ⊢
  have hl := lv_entry ([.ref (ad 0), .int a1, .int a2]) (n := 5) (Nat.le_of_ble_eq_true rfl)
  rw [lg_entry_eq]
  generalize (lg_sl ([.ref (ad 0), .int a1, .int a2]) ++ List.replicate (5 - (lg_sl ([.ref (ad 0), .int a1, .int a2])).length) Slot.unset).toArray = ls at hl ⊢
  have hl : lv_has ls 5 [(0, .ref (ad 0)), (1, .int a1), (2, .int a2)] := hl
  unfold f_X6_ask at hf
  refine lv_iload_n hx hb dX6_ask_0 rfl (lv_at hl 1 rfl) ?_
  obtain ⟨r1, σ2, hc3, hf4⟩ := zBd hf
  clear hf
  refine zy_ci (r0 := r1) (WS1 := zg_W XL ad cA σ2) (TYS1 := zg_T XL cA) Z (va_runS (As := [.int a1]) (rest := []) X (c_X6_isSlot l D V ad cA a1 σ r1 σ2 hc3 s.heap.size) (va_cwS 1 hts gX6_ask_X6_isSlot rfl rfl rfl zh_X6_isSlot ⟨Nat.le_of_ble_eq_true rfl, Nat.le_of_ble_eq_true rfl⟩) (zz_pS Z) rfl rfl hl.1 rfl (lv_room (Nat.le_of_ble_eq_true rfl)) dX6_ask_1 ⟨Nat.le_of_ble_eq_true rfl, Nat.le_of_ble_eq_true rfl⟩) (fun H5 lo6 Z7 => ?_)
  clear Z hc3
  refine lv_if_eq (tgt := 16) hx hb dX6_ask_4 (by decide) (fun b8 => ?_) (fun b8 => ?_)
  · have hf9 := zYes hf4 b8
    clear hf4
    refine lv_ldc (v := (-1000000001)) hx hb hown (hts _ (zz_m 1 rfl)) dX6_ask_16 ?_
    exact zy_iret X hr hlk Z7 (zEnd hf9) dX6_ask_18
  · have hf10 := zNot hf4 b8
    clear hf4
    refine lv_iload_n hx hb dX6_ask_7 rfl (lv_at hl 2 rfl) ?_
    refine lv_iconst (v := 0) hx hb dX6_ask_8 (by decide) ?_
    refine lv_iconst (v := 5) hx hb dX6_ask_9 (by decide) ?_
    obtain ⟨r11, σ12, hc13, hf14⟩ := zBd hf10
    clear hf10
    refine zy_ci (r0 := r11) (WS1 := zg_W XL ad cA σ12) (TYS1 := zg_T XL cA) Z7 (va_runS (As := [.int a2, .int 0, .int 5]) (rest := []) X (c_X6_within l D V ad cA a2 0 5 σ2 r11 σ12 hc13 H5.size) (va_cwS 3 hts gX6_ask_X6_within rfl rfl rfl zh_X6_within ⟨Nat.le_of_ble_eq_true rfl, Nat.le_of_ble_eq_true rfl⟩) (zz_pS Z7) rfl rfl hl.1 rfl (lv_room (Nat.le_of_ble_eq_true rfl)) dX6_ask_10 ⟨Nat.le_of_ble_eq_true rfl, Nat.le_of_ble_eq_true rfl⟩) (fun H15 lo16 Z17 => ?_)
    clear Z7 hc13
    refine lv_if_ne (tgt := 19) hx hb dX6_ask_13 (by decide) (fun b18 => ?_) (fun b18 => ?_)
    · have hf19 := zNot hf14 b18
      clear hf14
      refine lv_aload_n hx hb dX6_ask_19 rfl (lv_at hl 0 rfl) ?_
      refine zy_get (v := .ref (ad 4)) X Z17 xL_ok xk_0 rfl rfl (fun w h => List.mem_cons_of_mem _ (List.mem_append_left _ (List.mem_append_left _ (List.mem_append_right _ h)))) 8 rfl (zz_m 2 rfl) rfl dX6_ask_20 ?_
      refine lv_iload_n hx hb dX6_ask_23 rfl (lv_at hl 1 rfl) ?_
      obtain ⟨⟨i20, j21⟩, hf22⟩ := zG hf19
      clear hf19
      refine zy_ald (v := (61 + 4 * (Int32.toNatClampNeg a1))) (C := RX3) X Z17 xL_ok xk_4 rfl rfl xl_4 rfl i20 rfl dX6_ask_24 ?_
      refine lv_iconst (v := 1) hx hb dX6_ask_25 (by decide) ?_
      obtain ⟨r23, σ24, hc25, hf26⟩ := zBd hf22
      clear hf22
      refine zy_ci (r0 := r23) (WS1 := zg_W XL ad cA σ24) (TYS1 := zg_T XL cA) Z17 (va_runV (As := [.int 1]) (rest := []) X (c_X3_refuses l D V ad cA (61 + 4 * (Int32.toNatClampNeg a1)) 1 (xO j21) σ12 r23 σ24 hc25 H15.size) (cwV 1 hts gX6_ask_X3_refuses rfl rfl rfl ⟨rfl, zh_X3_refuses⟩ ⟨Nat.le_of_ble_eq_true rfl, Nat.le_of_ble_eq_true rfl⟩) (zy_pV (ci := 3) Z17 xL_ok (xO j21) rfl rfl) rfl rfl hl.1 rfl (lv_room (Nat.le_of_ble_eq_true rfl)) dX6_ask_26 ⟨Nat.le_of_ble_eq_true rfl, Nat.le_of_ble_eq_true rfl⟩) (fun H27 lo28 Z29 => ?_)
      clear Z17 hc25
      refine lv_istore_n (lv' := [(3, .int r23), (0, .ref (ad 0)), (1, .int a1), (2, .int a2)]) hx hb dX6_ask_29 rfl hl (by decide) rfl (fun ls31 hl30 => ?_)
      clear hl
      refine lv_iload_n hx hb dX6_ask_30 rfl (lv_at hl30 0 rfl) ?_
      refine lv_if_eq (tgt := 36) hx hb dX6_ask_31 (by decide) (fun b32 => ?_) (fun b32 => ?_)
      · have hf33 := zYes hf26 b32
        clear hf26
        refine lv_aload_n hx hb dX6_ask_36 rfl (lv_at hl30 1 rfl) ?_
        refine zy_get (v := .ref (ad 4)) X Z29 xL_ok xk_0 rfl rfl (fun w h => List.mem_cons_of_mem _ (List.mem_append_left _ (List.mem_append_left _ (List.mem_append_right _ h)))) 8 rfl (zz_m 2 rfl) rfl dX6_ask_37 ?_
        refine lv_iload_n hx hb dX6_ask_40 rfl (lv_at hl30 2 rfl) ?_
        refine zy_ald (v := (61 + 4 * (Int32.toNatClampNeg a1))) (C := RX3) X Z29 xL_ok xk_4 rfl rfl xl_4 rfl i20 rfl dX6_ask_41 ?_
        refine zy_get (v := .ref (ad ((61 + 4 * (Int32.toNatClampNeg a1)) + 1))) X Z29 xL_ok (xO j21) rfl rfl (fun w h => List.mem_cons_of_mem _ (List.mem_append_left _ (List.mem_append_right _ h))) 2 rfl (zz_m 3 rfl) rfl dX6_ask_42 ?_
        refine lv_astore (lv' := [(4, .ref (ad ((61 + 4 * (Int32.toNatClampNeg a1)) + 1))), (3, .int r23), (0, .ref (ad 0)), (1, .int a1), (2, .int a2)]) hx hb dX6_ask_45 hl30 (by decide) rfl (fun ls35 hl34 => ?_)
        clear hl30
        refine lv_aload hx hb dX6_ask_47 (lv_at hl34 0 rfl) ?_
        refine lv_iload_n hx hb dX6_ask_49 rfl (lv_at hl34 4 rfl) ?_
        obtain ⟨r36, σ37, hc38, hf39⟩ := zBd hf33
        clear hf33
        refine zy_ci (r0 := r36) (WS1 := zg_W XL ad cA σ37) (TYS1 := zg_T XL cA) Z29 (va_runV (As := [.int a2]) (rest := []) X (c_X4_isOf l D V ad cA ((61 + 4 * (Int32.toNatClampNeg a1)) + 1) a2 (xO1 (xO j21)) σ24 r36 σ37 hc38 H27.size) (cwV 1 hts gX6_ask_X4_isOf rfl rfl rfl ⟨rfl, zh_X4_isOf⟩ ⟨Nat.le_of_ble_eq_true rfl, Nat.le_of_ble_eq_true rfl⟩) (zy_pV (ci := 4) Z29 xL_ok (xO1 (xO j21)) rfl rfl) rfl rfl hl34.1 rfl (lv_room (Nat.le_of_ble_eq_true rfl)) dX6_ask_50 ⟨Nat.le_of_ble_eq_true rfl, Nat.le_of_ble_eq_true rfl⟩) (fun H40 lo41 Z42 => ?_)
        clear Z29 hc38
        refine lv_if_eq (tgt := 64) hx hb dX6_ask_53 (by decide) (fun b43 => ?_) (fun b43 => ?_)
        · have hf44 := zYes hf39 b43
          clear hf39
          refine lv_ldc (v := (-1000000012)) hx hb hown (hts _ (zz_m 4 rfl)) dX6_ask_64 ?_
          exact zy_iret X hr hlk Z42 (zEnd hf44) dX6_ask_66
        · have hf45 := zNot hf39 b43
          clear hf39
          refine lv_aload hx hb dX6_ask_56 (lv_at hl34 0 rfl) ?_
          obtain ⟨r46, σ47, hc48, hf49⟩ := zBd hf45
          clear hf45
          refine zy_ci (r0 := r46) (WS1 := zg_W XL ad cA σ47) (TYS1 := zg_T XL cA) Z42 (va_runV (As := []) (rest := []) X (c_X4_worth l D V ad cA ((61 + 4 * (Int32.toNatClampNeg a1)) + 1) (xO1 (xO j21)) σ37 r46 σ47 hc48 H40.size) (cwV 0 hts gX6_ask_X4_worth rfl rfl rfl ⟨rfl, zh_X4_worth⟩ ⟨Nat.le_of_ble_eq_true rfl, Nat.le_of_ble_eq_true rfl⟩) (zy_pV (ci := 4) Z42 xL_ok (xO1 (xO j21)) rfl rfl) rfl rfl hl34.1 rfl (lv_room (Nat.le_of_ble_eq_true rfl)) dX6_ask_58 ⟨Nat.le_of_ble_eq_true rfl, Nat.le_of_ble_eq_true rfl⟩) (fun H50 lo51 Z52 => ?_)
          clear Z42 hc48
          refine lv_goto (tgt := 66) hx hb dX6_ask_61 (by decide) ?_
          exact zy_iret X hr hlk Z52 (zEnd hf49) dX6_ask_66
      · have hf53 := zNot hf26 b32
        clear hf26
        refine lv_iload_n hx hb dX6_ask_34 rfl (lv_at hl30 0 rfl) ?_
        exact zy_iret X hr hlk Z29 (zEnd hf53) dX6_ask_35
    · have hf54 := zYes hf14 b18
      clear hf14
      refine lv_ldc (v := (-1000000001)) hx hb hown (hts _ (zz_m 1 rfl)) dX6_ask_16 ?_
      exact zy_iret X hr hlk Z17 (zEnd hf54) dX6_ask_18
def f_X6_back  (σ : zg_S) : Option (Int32 × zg_S) := (if (σ 0 12) = 0 then some ((-1000000002), σ) else zbd (f_X0_takeOver 153 177 σ) (fun (r3 : Int32) (σ4 : zg_S) => some (σ4 153 3, σ4)))
set_option maxHeartbeats 4000000 in
set_option maxRecDepth 100000 in
theorem c_X6_back (l : Launch) (D : va_G) (V : zz_V) (ad : Nat → Nat) (cA : Nat → ClassId)   (σ : zg_S) (r0 : Int32) (σf : zg_S) (hf : f_X6_back  σ = some (r0, σf)) : zM_I l yX6_back wsX6_back 2 43 D V XL ad cA [.ref (ad 0)] σ r0 σf := by
  intro sz
  refine Met.ofW (cc := cX6_back) (maxL := 1) (ret := (some .int)) (by decide) rfl ?_
  intro p e s m args below meth c s₁ B hml hv
  obtain ⟨rfl, hC⟩ := hv
  have hx := B.exec
  have hb := B.bytes
  have hr := B.returns
  have hts := atoms_spec (ws := wsX6_back) B.pre
  have hown : s.vm.findClass RX6 = some m.cls := findClass_of_methodNamed B.named
  have hlk := B.notSynchronized
  have X : CallFix p m c cX6_back 1 s _ wsX6_back RX6 := ⟨hx, hb, hml, hown, hts⟩
  have Z := zz_enter hC
  generalize va_A (zg_W XL ad cA σ) sz = A at Z ⊢
  have hl := lv_entry ([.ref (ad 0)]) (n := 1) (Nat.le_of_ble_eq_true rfl)
  rw [lg_entry_eq]
  generalize (lg_sl ([.ref (ad 0)]) ++ List.replicate (1 - (lg_sl ([.ref (ad 0)])).length) Slot.unset).toArray = ls at hl ⊢
  have hl : lv_has ls 1 [(0, .ref (ad 0))] := hl
  unfold f_X6_back at hf
  refine lv_aload_n hx hb dX6_back_0 rfl (lv_at hl 0 rfl) ?_
  refine zy_get (v := .int (σ 0 12)) X Z xL_ok xk_0 rfl rfl (fun w h => List.mem_cons_of_mem _ (List.mem_append_left _ (List.mem_append_left _ (List.mem_append_right _ h)))) 12 rfl (zz_m 1 rfl) rfl dX6_back_1 ?_
  refine lv_if_ne (tgt := 11) hx hb dX6_back_4 (by decide) (fun b1 => ?_) (fun b1 => ?_)
  · have hf2 := zNot hf b1
    clear hf
    refine lv_aload_n hx hb dX6_back_11 rfl (lv_at hl 0 rfl) ?_
    refine zy_get (v := .ref (ad 153)) X Z xL_ok xk_0 rfl rfl (fun w h => List.mem_cons_of_mem _ (List.mem_append_left _ (List.mem_append_left _ (List.mem_append_right _ h)))) 1 rfl (zz_m 3 rfl) rfl dX6_back_12 ?_
    refine lv_aload_n hx hb dX6_back_15 rfl (lv_at hl 0 rfl) ?_
    refine zy_get (v := .ref (ad 177)) X Z xL_ok xk_0 rfl rfl (fun w h => List.mem_cons_of_mem _ (List.mem_append_left _ (List.mem_append_left _ (List.mem_append_right _ h)))) 3 rfl (zz_m 4 rfl) rfl dX6_back_16 ?_
    obtain ⟨r3, σ4, hc5, hf6⟩ := zBd hf2
    clear hf2
    refine zy_cv (WS1 := zg_W XL ad cA σ4) (TYS1 := zg_T XL cA) Z (va_runV (As := [.ref (ad 177)]) (rest := []) X (c_X0_takeOver l D V ad cA 153 177 xk_153 xk_177 σ r3 σ4 hc5 s.heap.size) (cwV 1 hts gX6_back_X0_takeOver rfl rfl rfl ⟨rfl, zh_X0_takeOver⟩ ⟨Nat.le_of_ble_eq_true rfl, Nat.le_of_ble_eq_true rfl⟩) (zy_pV (ci := 0) Z xL_ok xk_153 rfl rfl) rfl rfl hl.1 rfl (lv_room (Nat.le_of_ble_eq_true rfl)) dX6_back_19 ⟨Nat.le_of_ble_eq_true rfl, Nat.le_of_ble_eq_true rfl⟩) (fun H7 lo8 Z9 => ?_)
    clear Z hc5
    refine lv_aload_n hx hb dX6_back_22 rfl (lv_at hl 0 rfl) ?_
    refine zy_get (v := .ref (ad 153)) X Z9 xL_ok xk_0 rfl rfl (fun w h => List.mem_cons_of_mem _ (List.mem_append_left _ (List.mem_append_left _ (List.mem_append_right _ h)))) 1 rfl (zz_m 3 rfl) rfl dX6_back_23 ?_
    refine zy_get (v := .int (σ4 153 3)) X Z9 xL_ok xk_153 rfl rfl (fun w h => List.mem_cons_of_mem _ (List.mem_append_left _ (List.mem_append_right _ h))) 3 rfl (zz_m 5 rfl) rfl dX6_back_26 ?_
    exact zy_iret X hr hlk Z9 (zEnd hf6) dX6_back_29
  · have hf10 := zYes hf b1
    clear hf
    refine lv_ldcw (v := (-1000000002)) hx hb hown (hts _ (zz_m 2 rfl)) dX6_back_7 ?_
    exact zy_iret X hr hlk Z (zEnd hf10) dX6_back_10
def B_X6_thinkOn_2 (a1 : Int32) (rec2_ : Int32 → zg_S → Option (Int32 × zg_S)) (x2 : Int32) (σ : zg_S) : Option (Int32 × zg_S) := (if a1 ≤ x2 then some (0, σ) else zbd (f_X0_hauling 165 σ) (fun (r4 : Int32) (σ5 : zg_S) => zbd (f_X0_passHour 165 r4 σ5) (fun (r11 : Int32) (σ12 : zg_S) => rec2_ (x2 + 1) σ12)))
def L_X6_thinkOn_2 (a1 : Int32) : Nat → Int32 → zg_S → Option (Int32 × zg_S) := zfix (fun _ _ => none) (B_X6_thinkOn_2 a1)
def f_X6_thinkOn (a1 : Int32) (σ : zg_S) : Option (Int32 × zg_S) := L_X6_thinkOn_2 a1 zfu 0 σ
set_option maxHeartbeats 4000000 in
set_option maxRecDepth 100000 in
theorem c_X6_thinkOn (l : Launch) (D : va_G) (V : zz_V) (ad : Nat → Nat) (cA : Nat → ClassId) (a1 : Int32)  (σ : zg_S) (r0 : Int32) (σf : zg_S) (hf : f_X6_thinkOn a1 σ = some (r0, σf)) : zM_V l yX6_thinkOn wsX6_thinkOn 6 137 D V XL ad cA [.ref (ad 0), .int a1] σ r0 σf := by
  intro sz
  refine Met.ofW (cc := cX6_thinkOn) (maxL := 3) (ret := none) (by decide) rfl ?_
  intro p e s m args below meth c s₁ B hml hv
  obtain ⟨rfl, hC⟩ := hv
  have hx := B.exec
  have hb := B.bytes
  have hr := B.returns
  have hts := atoms_spec (ws := wsX6_thinkOn) B.pre
  have hown : s.vm.findClass RX6 = some m.cls := findClass_of_methodNamed B.named
  have hlk := B.notSynchronized
  have X : CallFix p m c cX6_thinkOn 3 s _ wsX6_thinkOn RX6 := ⟨hx, hb, hml, hown, hts⟩
  have Z := zz_enter hC
  generalize va_A (zg_W XL ad cA σ) sz = A at Z ⊢
  have hl := lv_entry ([.ref (ad 0), .int a1]) (n := 3) (Nat.le_of_ble_eq_true rfl)
  rw [lg_entry_eq]
  generalize (lg_sl ([.ref (ad 0), .int a1]) ++ List.replicate (3 - (lg_sl ([.ref (ad 0), .int a1])).length) Slot.unset).toArray = ls at hl ⊢
  have hl : lv_has ls 3 [(0, .ref (ad 0)), (1, .int a1)] := hl
  unfold f_X6_thinkOn at hf
  have b2_ : ∀ (k2_ : Nat) (x2 : Int32) (σ : zg_S), L_X6_thinkOn_2 a1 k2_ x2 σ = some (r0, σf) → ∀ (H : Heap) (locs : List Loc) (ls : Array Slot), zz_S D V A s (zg_W XL ad cA σ) (zg_T XL cA) H locs → lv_has ls 3 [(0, .ref (ad 0)), (1, .int a1), (2, .int x2)] → W p l e (headSpec wsX6_thinkOn { frames := 6, cells := 0, slots := 0, locals := 137 }).room s m (List.toArray [.ref (ad 0), .int a1]) below meth c H locs 0 0 (MQ below (va_Qv (fun (_ : Unit) => True) (fun _ t => zz_B D A (zg_W XL ad cA σf) (zg_T XL cA) t) A) (List.toArray [.ref (ad 0), .int a1]) s 0 0 A) (F0 m 2 ls []) := by
    intro k2_
    induction k2_ with
    | zero =>
        intro x2 σ hf2_ H2_ locs2_ ls2_ Z2_ hl2_
        exact zNone hf2_
    | succ k2_ ih2_ =>
        intro x2 σ hf2_ H2_ locs2_ ls2_ Z2_ hl2_
        replace hf2_ : B_X6_thinkOn_2 a1 (L_X6_thinkOn_2 a1 k2_) x2 σ = some (r0, σf) := hf2_
        unfold B_X6_thinkOn_2 at hf2_
        refine lv_iload_n hx hb dX6_thinkOn_2 rfl (lv_at hl2_ 2 rfl) ?_
        refine lv_iload_n hx hb dX6_thinkOn_3 rfl (lv_at hl2_ 1 rfl) ?_
        refine lv_icmp_ge (tgt := 27) hx hb dX6_thinkOn_4 (by decide) (fun b1 => ?_) (fun b1 => ?_)
        · have hf2 := zYes hf2_ b1
          clear hf2_
          exact zy_vret X hr hlk Z2_ (zEnd hf2) dX6_thinkOn_27
        · have hf3 := zNot hf2_ b1
          clear hf2_
          refine lv_aload_n hx hb dX6_thinkOn_7 rfl (lv_at hl2_ 0 rfl) ?_
          refine zy_get (v := .ref (ad 165)) X Z2_ xL_ok xk_0 rfl rfl (fun w h => List.mem_cons_of_mem _ (List.mem_append_left _ (List.mem_append_left _ (List.mem_append_left _ (List.mem_append_right _ h))))) 2 rfl (zz_m 1 rfl) rfl dX6_thinkOn_8 ?_
          refine lv_aload_n hx hb dX6_thinkOn_11 rfl (lv_at hl2_ 0 rfl) ?_
          refine zy_get (v := .ref (ad 165)) X Z2_ xL_ok xk_0 rfl rfl (fun w h => List.mem_cons_of_mem _ (List.mem_append_left _ (List.mem_append_left _ (List.mem_append_left _ (List.mem_append_right _ h))))) 2 rfl (zz_m 1 rfl) rfl dX6_thinkOn_12 ?_
          obtain ⟨r4, σ5, hc6, hf7⟩ := zBd hf3
          clear hf3
          refine zy_ci (r0 := r4) (WS1 := zg_W XL ad cA σ5) (TYS1 := zg_T XL cA) Z2_ (va_runV (As := []) (rest := [.ref (ad 165)]) X (c_X0_hauling l D V ad cA 165 xk_165 σ r4 σ5 hc6 H2_.size) (cwV 0 hts gX6_thinkOn_X0_hauling rfl rfl rfl ⟨rfl, zh_X0_hauling⟩ ⟨Nat.le_of_ble_eq_true rfl, Nat.le_of_ble_eq_true rfl⟩) (zy_pV (ci := 0) Z2_ xL_ok xk_165 rfl rfl) rfl rfl hl2_.1 rfl (lv_room (Nat.le_of_ble_eq_true rfl)) dX6_thinkOn_15 ⟨Nat.le_of_ble_eq_true rfl, Nat.le_of_ble_eq_true rfl⟩) (fun H8 lo9 Z10 => ?_)
          clear Z2_ hc6
          obtain ⟨r11, σ12, hc13, hf14⟩ := zBd hf7
          clear hf7
          refine zy_cv (WS1 := zg_W XL ad cA σ12) (TYS1 := zg_T XL cA) Z10 (va_runV (As := [.int r4]) (rest := []) X (c_X0_passHour l D V ad cA 165 r4 xk_165 σ5 r11 σ12 hc13 H8.size) (cwV 1 hts gX6_thinkOn_X0_passHour rfl rfl rfl ⟨rfl, zh_X0_passHour⟩ ⟨Nat.le_of_ble_eq_true rfl, Nat.le_of_ble_eq_true rfl⟩) (zy_pV (ci := 0) Z10 xL_ok xk_165 rfl rfl) rfl rfl hl2_.1 rfl (lv_room (Nat.le_of_ble_eq_true rfl)) dX6_thinkOn_18 ⟨Nat.le_of_ble_eq_true rfl, Nat.le_of_ble_eq_true rfl⟩) (fun H15 lo16 Z17 => ?_)
          clear Z10 hc13
          refine lv_iinc (v := (x2 + 1)) (lv' := [(2, .int (x2 + 1)), (0, .ref (ad 0)), (1, .int a1)]) hx hb dX6_thinkOn_21 hl2_ (k := 2) rfl rfl (by decide) rfl (fun ls19 hl18 => ?_)
          clear hl2_
          refine lv_goto (tgt := 2) hx hb dX6_thinkOn_24 (by decide) ?_
          exact ih2_ (x2 + 1) σ12 hf14 _ _ _ Z17 (lv_sub hl18 [1, 2, 0] rfl)
  refine lv_iconst (v := 0) hx hb dX6_thinkOn_0 (by decide) ?_
  refine lv_istore_n (lv' := [(2, .int 0), (0, .ref (ad 0)), (1, .int a1)]) hx hb dX6_thinkOn_1 rfl hl (by decide) rfl (fun ls21 hl20 => ?_)
  clear hl
  exact b2_ zfu 0 σ hf _ _ _ Z (lv_sub hl20 [1, 2, 0] rfl)
def f_X6_behind (a1 : Int32) (a2 : Int32) (σ : zg_S) : Option (Int32 × zg_S) := zbd (f_X6_within a1 0 100 σ) (fun (r1 : Int32) (σ2 : zg_S) => (if r1 = 0 then some ((-1000000001), σ2) else zbd (f_X6_within a2 0 3 σ2) (fun (r11 : Int32) (σ12 : zg_S) => (if r11 = 0 then some ((-1000000001), σ12) else zbd (f_X0_takeOver 165 153 σ12) (fun (r20 : Int32) (σ21 : zg_S) => zbd (f_X6_thinkOn a1 σ21) (fun (r27 : Int32) (σ28 : zg_S) => (if a2 = 0 then some (σ28 165 11, σ28) else (if a2 = 1 then some (σ28 165 10, σ28) else (if a2 = 2 then some (σ28 165 6, σ28) else some (σ28 165 12, σ28))))))))))
set_option maxHeartbeats 4000000 in
set_option maxRecDepth 100000 in
theorem c_X6_behind (l : Launch) (D : va_G) (V : zz_V) (ad : Nat → Nat) (cA : Nat → ClassId) (a1 : Int32) (a2 : Int32)  (σ : zg_S) (r0 : Int32) (σf : zg_S) (hf : f_X6_behind a1 a2 σ = some (r0, σf)) : zM_I l yX6_behind wsX6_behind 7 159 D V XL ad cA [.ref (ad 0), .int a1, .int a2] σ r0 σf := by
  intro sz
  refine Met.ofW (cc := cX6_behind) (maxL := 3) (ret := (some .int)) (by decide) rfl ?_
  intro p e s m args below meth c s₁ B hml hv
  obtain ⟨rfl, hC⟩ := hv
  have hx := B.exec
  have hb := B.bytes
  have hr := B.returns
  have hts := atoms_spec (ws := wsX6_behind) B.pre
  have hown : s.vm.findClass RX6 = some m.cls := findClass_of_methodNamed B.named
  have hlk := B.notSynchronized
  have X : CallFix p m c cX6_behind 3 s _ wsX6_behind RX6 := ⟨hx, hb, hml, hown, hts⟩
  have Z := zz_enter hC
  generalize va_A (zg_W XL ad cA σ) sz = A at Z ⊢
  have hl := lv_entry ([.ref (ad 0), .int a1, .int a2]) (n := 3) (Nat.le_of_ble_eq_true rfl)
  rw [lg_entry_eq]
  generalize (lg_sl ([.ref (ad 0), .int a1, .int a2]) ++ List.replicate (3 - (lg_sl ([.ref (ad 0), .int a1, .int a2])).length) Slot.unset).toArray = ls at hl ⊢
  have hl : lv_has ls 3 [(0, .ref (ad 0)), (1, .int a1), (2, .int a2)] := hl
  unfold f_X6_behind at hf
  refine lv_iload_n hx hb dX6_behind_0 rfl (lv_at hl 1 rfl) ?_
  refine lv_iconst (v := 0) hx hb dX6_behind_1 (by decide) ?_
  refine lv_bipush (v := 100) hx hb dX6_behind_2 (by decide) ?_
  obtain ⟨r1, σ2, hc3, hf4⟩ := zBd hf
  clear hf
  refine zy_ci (r0 := r1) (WS1 := zg_W XL ad cA σ2) (TYS1 := zg_T XL cA) Z (va_runS (As := [.int a1, .int 0, .int 100]) (rest := []) X (c_X6_within l D V ad cA a1 0 100 σ r1 σ2 hc3 s.heap.size) (va_cwS 3 hts gX6_behind_X6_within rfl rfl rfl zh_X6_within ⟨Nat.le_of_ble_eq_true rfl, Nat.le_of_ble_eq_true rfl⟩) (zz_pS Z) rfl rfl hl.1 rfl (lv_room (Nat.le_of_ble_eq_true rfl)) dX6_behind_4 ⟨Nat.le_of_ble_eq_true rfl, Nat.le_of_ble_eq_true rfl⟩) (fun H5 lo6 Z7 => ?_)
  clear Z hc3
  refine lv_if_eq (tgt := 19) hx hb dX6_behind_7 (by decide) (fun b8 => ?_) (fun b8 => ?_)
  · have hf9 := zYes hf4 b8
    clear hf4
    refine lv_ldc (v := (-1000000001)) hx hb hown (hts _ (zz_m 1 rfl)) dX6_behind_19 ?_
    exact zy_iret X hr hlk Z7 (zEnd hf9) dX6_behind_21
  · have hf10 := zNot hf4 b8
    clear hf4
    refine lv_iload_n hx hb dX6_behind_10 rfl (lv_at hl 2 rfl) ?_
    refine lv_iconst (v := 0) hx hb dX6_behind_11 (by decide) ?_
    refine lv_iconst (v := 3) hx hb dX6_behind_12 (by decide) ?_
    obtain ⟨r11, σ12, hc13, hf14⟩ := zBd hf10
    clear hf10
    refine zy_ci (r0 := r11) (WS1 := zg_W XL ad cA σ12) (TYS1 := zg_T XL cA) Z7 (va_runS (As := [.int a2, .int 0, .int 3]) (rest := []) X (c_X6_within l D V ad cA a2 0 3 σ2 r11 σ12 hc13 H5.size) (va_cwS 3 hts gX6_behind_X6_within rfl rfl rfl zh_X6_within ⟨Nat.le_of_ble_eq_true rfl, Nat.le_of_ble_eq_true rfl⟩) (zz_pS Z7) rfl rfl hl.1 rfl (lv_room (Nat.le_of_ble_eq_true rfl)) dX6_behind_13 ⟨Nat.le_of_ble_eq_true rfl, Nat.le_of_ble_eq_true rfl⟩) (fun H15 lo16 Z17 => ?_)
    clear Z7 hc13
    refine lv_if_ne (tgt := 22) hx hb dX6_behind_16 (by decide) (fun b18 => ?_) (fun b18 => ?_)
    · have hf19 := zNot hf14 b18
      clear hf14
      refine lv_aload_n hx hb dX6_behind_22 rfl (lv_at hl 0 rfl) ?_
      refine zy_get (v := .ref (ad 165)) X Z17 xL_ok xk_0 rfl rfl (fun w h => List.mem_cons_of_mem _ (List.mem_append_left _ (List.mem_append_left _ (List.mem_append_left _ (List.mem_append_right _ h))))) 2 rfl (zz_m 2 rfl) rfl dX6_behind_23 ?_
      refine lv_aload_n hx hb dX6_behind_26 rfl (lv_at hl 0 rfl) ?_
      refine zy_get (v := .ref (ad 153)) X Z17 xL_ok xk_0 rfl rfl (fun w h => List.mem_cons_of_mem _ (List.mem_append_left _ (List.mem_append_left _ (List.mem_append_left _ (List.mem_append_right _ h))))) 1 rfl (zz_m 3 rfl) rfl dX6_behind_27 ?_
      obtain ⟨r20, σ21, hc22, hf23⟩ := zBd hf19
      clear hf19
      refine zy_cv (WS1 := zg_W XL ad cA σ21) (TYS1 := zg_T XL cA) Z17 (va_runV (As := [.ref (ad 153)]) (rest := []) X (c_X0_takeOver l D V ad cA 165 153 xk_165 xk_153 σ12 r20 σ21 hc22 H15.size) (cwV 1 hts gX6_behind_X0_takeOver rfl rfl rfl ⟨rfl, zh_X0_takeOver⟩ ⟨Nat.le_of_ble_eq_true rfl, Nat.le_of_ble_eq_true rfl⟩) (zy_pV (ci := 0) Z17 xL_ok xk_165 rfl rfl) rfl rfl hl.1 rfl (lv_room (Nat.le_of_ble_eq_true rfl)) dX6_behind_30 ⟨Nat.le_of_ble_eq_true rfl, Nat.le_of_ble_eq_true rfl⟩) (fun H24 lo25 Z26 => ?_)
      clear Z17 hc22
      refine lv_aload_n hx hb dX6_behind_33 rfl (lv_at hl 0 rfl) ?_
      refine lv_iload_n hx hb dX6_behind_34 rfl (lv_at hl 1 rfl) ?_
      obtain ⟨r27, σ28, hc29, hf30⟩ := zBd hf23
      clear hf23
      refine zy_cv (WS1 := zg_W XL ad cA σ28) (TYS1 := zg_T XL cA) Z26 (va_runV (As := [.int a1]) (rest := []) X (c_X6_thinkOn l D V ad cA a1 σ21 r27 σ28 hc29 H24.size) (cwV 1 hts gX6_behind_X6_thinkOn rfl rfl rfl ⟨rfl, zh_X6_thinkOn⟩ ⟨Nat.le_of_ble_eq_true rfl, Nat.le_of_ble_eq_true rfl⟩) (zy_pV (ci := 6) Z26 xL_ok xk_0 rfl rfl) rfl rfl hl.1 rfl (lv_room (Nat.le_of_ble_eq_true rfl)) dX6_behind_35 ⟨Nat.le_of_ble_eq_true rfl, Nat.le_of_ble_eq_true rfl⟩) (fun H31 lo32 Z33 => ?_)
      clear Z26 hc29
      refine lv_iload_n hx hb dX6_behind_38 rfl (lv_at hl 2 rfl) ?_
      by_cases w34 : a2 = 0
      · have hf35 := zYes hf30 w34
        clear hf30
        refine zz_v w34 ?_
        refine lv_tableIn (x := 0) (off := 25) (tgt := 64) hx hb dX6_behind_39 (by decide) (by decide) rfl (by decide) ?_
        refine lv_aload_n hx hb dX6_behind_64 rfl (lv_at hl 0 rfl) ?_
        refine zy_get (v := .ref (ad 165)) X Z33 xL_ok xk_0 rfl rfl (fun w h => List.mem_cons_of_mem _ (List.mem_append_left _ (List.mem_append_left _ (List.mem_append_left _ (List.mem_append_right _ h))))) 2 rfl (zz_m 2 rfl) rfl dX6_behind_65 ?_
        refine zy_get (v := .int (σ28 165 11)) X Z33 xL_ok xk_165 rfl rfl (fun w h => List.mem_cons_of_mem _ (List.mem_append_left _ (List.mem_append_left _ (List.mem_append_right _ h)))) 11 rfl (zz_m 4 rfl) rfl dX6_behind_68 ?_
        exact zy_iret X hr hlk Z33 (zEnd hf35) dX6_behind_71
      · have hf36 := zNot hf30 w34
        clear hf30
        by_cases w37 : a2 = 1
        · have hf38 := zYes hf36 w37
          clear hf36
          refine zz_v w37 ?_
          refine lv_tableIn (x := 1) (off := 33) (tgt := 72) hx hb dX6_behind_39 (by decide) (by decide) rfl (by decide) ?_
          refine lv_aload_n hx hb dX6_behind_72 rfl (lv_at hl 0 rfl) ?_
          refine zy_get (v := .ref (ad 165)) X Z33 xL_ok xk_0 rfl rfl (fun w h => List.mem_cons_of_mem _ (List.mem_append_left _ (List.mem_append_left _ (List.mem_append_left _ (List.mem_append_right _ h))))) 2 rfl (zz_m 2 rfl) rfl dX6_behind_73 ?_
          refine zy_get (v := .int (σ28 165 10)) X Z33 xL_ok xk_165 rfl rfl (fun w h => List.mem_cons_of_mem _ (List.mem_append_left _ (List.mem_append_left _ (List.mem_append_right _ h)))) 10 rfl (zz_m 5 rfl) rfl dX6_behind_76 ?_
          exact zy_iret X hr hlk Z33 (zEnd hf38) dX6_behind_79
        · have hf39 := zNot hf36 w37
          clear hf36
          by_cases w40 : a2 = 2
          · have hf41 := zYes hf39 w40
            clear hf39
            refine zz_v w40 ?_
            refine lv_tableIn (x := 2) (off := 41) (tgt := 80) hx hb dX6_behind_39 (by decide) (by decide) rfl (by decide) ?_
            refine lv_aload_n hx hb dX6_behind_80 rfl (lv_at hl 0 rfl) ?_
            refine zy_get (v := .ref (ad 165)) X Z33 xL_ok xk_0 rfl rfl (fun w h => List.mem_cons_of_mem _ (List.mem_append_left _ (List.mem_append_left _ (List.mem_append_left _ (List.mem_append_right _ h))))) 2 rfl (zz_m 2 rfl) rfl dX6_behind_81 ?_
            refine zy_get (v := .int (σ28 165 6)) X Z33 xL_ok xk_165 rfl rfl (fun w h => List.mem_cons_of_mem _ (List.mem_append_left _ (List.mem_append_left _ (List.mem_append_right _ h)))) 6 rfl (zz_m 6 rfl) rfl dX6_behind_84 ?_
            exact zy_iret X hr hlk Z33 (zEnd hf41) dX6_behind_87
          · have hf42 := zNot hf39 w40
            clear hf39
            have n43 := zNe (k := 0) (y := 0) (by decide) w34
            have n44 := zNe (k := 1) (y := 1) (by decide) w37
            have n45 := zNe (k := 2) (y := 2) (by decide) w40
            refine lv_tableOut (tgt := 88) hx hb dX6_behind_39 (by omega) (by decide) ?_
            refine lv_aload_n hx hb dX6_behind_88 rfl (lv_at hl 0 rfl) ?_
            refine zy_get (v := .ref (ad 165)) X Z33 xL_ok xk_0 rfl rfl (fun w h => List.mem_cons_of_mem _ (List.mem_append_left _ (List.mem_append_left _ (List.mem_append_left _ (List.mem_append_right _ h))))) 2 rfl (zz_m 2 rfl) rfl dX6_behind_89 ?_
            refine zy_get (v := .int (σ28 165 12)) X Z33 xL_ok xk_165 rfl rfl (fun w h => List.mem_cons_of_mem _ (List.mem_append_left _ (List.mem_append_left _ (List.mem_append_right _ h)))) 12 rfl (zz_m 7 rfl) rfl dX6_behind_92 ?_
            exact zy_iret X hr hlk Z33 (zEnd hf42) dX6_behind_95
    · have hf46 := zYes hf14 b18
      clear hf14
      refine lv_ldc (v := (-1000000001)) hx hb hown (hts _ (zz_m 1 rfl)) dX6_behind_19 ?_
      exact zy_iret X hr hlk Z17 (zEnd hf46) dX6_behind_21
def B_X6_tryHaulings_41 (rec : Nat → Int32 → Int32 → Int32 → zg_S → Option (Int32 × zg_S)) (a1 : Int32) (a2 : Int32) (a3 : Int32) (q4v : Nat) (σ : zg_S) : Option (Int32 × zg_S) := zlet (zg_up σ 0 13 (σ q4v 11)) (fun (σ1 : zg_S) => zlet (zg_up σ1 0 14 a3) (fun (σ7 : zg_S) => some (0, σ7)))
def B_X6_tryHaulings_59 (rec : Nat → Int32 → Int32 → Int32 → zg_S → Option (Int32 × zg_S)) (a1 : Int32) (a2 : Int32) (a3 : Int32) (rec59_ : Nat → Int32 → zg_S → Option (Int32 × zg_S)) (q4v : Nat) (x5 : Int32) (σ : zg_S) : Option (Int32 × zg_S) := (if 3 ≤ x5 then some (0, σ) else (if zin (a1 + 1) 6 = true then zbd (f_X0_takeOver (81 + 12 * (Int32.toNatClampNeg (a1 + 1))) q4v σ) (fun (r19 : Int32) (σ20 : zg_S) => zbd (f_X0_passHour (81 + 12 * (Int32.toNatClampNeg (a1 + 1))) x5 σ20) (fun (r26 : Int32) (σ27 : zg_S) => zbd (rec 0 (a1 + 1) a2 ((a3 * 3) + x5) σ27) (fun (r33 : Int32) (σ34 : zg_S) => rec59_ q4v (x5 + 1) σ34))) else none))
def L_X6_tryHaulings_59 (rec : Nat → Int32 → Int32 → Int32 → zg_S → Option (Int32 × zg_S)) (a1 : Int32) (a2 : Int32) (a3 : Int32) : Nat → Nat → Int32 → zg_S → Option (Int32 × zg_S) := zfix (fun _ _ _ => none) (B_X6_tryHaulings_59 rec a1 a2 a3)
def f_X6_tryHaulings (rec : Nat → Int32 → Int32 → Int32 → zg_S → Option (Int32 × zg_S)) (a1 : Int32) (a2 : Int32) (a3 : Int32) (σ : zg_S) : Option (Int32 × zg_S) := (if a1 < 0 then some (0, σ) else (if a1 ≤ 5 then (if zin a1 6 = true then (if (σ (81 + 12 * (Int32.toNatClampNeg a1)) 11) < (σ 0 13) then (if a2 ≤ a1 then B_X6_tryHaulings_41 rec a1 a2 a3 (81 + 12 * (Int32.toNatClampNeg a1)) σ else (if a1 = 5 then B_X6_tryHaulings_41 rec a1 a2 a3 (81 + 12 * (Int32.toNatClampNeg a1)) σ else L_X6_tryHaulings_59 rec a1 a2 a3 zfu (81 + 12 * (Int32.toNatClampNeg a1)) 0 σ)) else some (0, σ)) else none) else some (0, σ)))

def H_th (rec : Nat → Int32 → Int32 → Int32 → zg_S → Option (Int32 × zg_S)) : Nat → Int32 → Int32 → Int32 → zg_S → Option (Int32 × zg_S) := fun tag z0 z1 z2 σ => match tag with
  | _ => f_X6_tryHaulings rec z0 z1 z2 σ

def G_th : Nat → Nat → Int32 → Int32 → Int32 → zg_S → Option (Int32 × zg_S) := zfix (fun _ _ _ _ _ => none) H_th

def zG_th (l : Launch) (D : va_G) (V : zz_V) (ad : Nat → Nat) (cA : Nat → ClassId) (d : Nat) : Prop := (∀ (z0 : Int32) (z1 : Int32) (z2 : Int32) (σ : zg_S) (r0 : Int32) (σf : zg_S), G_th d 0 z0 z1 z2 σ = some (r0, σf) → zM_V l yX6_tryHaulings wsX6_tryHaulings (5 + d) (116 + 25 * d) D V XL ad cA [.ref (ad 0), .int z0, .int z1, .int z2] σ r0 σf)

set_option maxHeartbeats 4000000 in
set_option maxRecDepth 100000 in
theorem c_X6_tryHaulings_s (l : Launch) (D : va_G) (V : zz_V) (ad : Nat → Nat) (cA : Nat → ClassId) (d : Nat) (ih : zG_th l D V ad cA d) (a1 : Int32) (a2 : Int32) (a3 : Int32) (σ : zg_S) (r0 : Int32) (σf : zg_S) (hf : f_X6_tryHaulings (G_th d) a1 a2 a3 σ = some (r0, σf)) : zM_V l yX6_tryHaulings wsX6_tryHaulings (5 + (d + 1)) (116 + 25 * (d + 1)) D V XL ad cA [.ref (ad 0), .int a1, .int a2, .int a3] σ r0 σf := by
  intro sz
  refine Met.ofW (cc := cX6_tryHaulings) (maxL := 6) (ret := none) (by decide) rfl ?_
  intro p e s m args below meth c s₁ B hml hv
  obtain ⟨rfl, hC⟩ := hv
  have hx := B.exec
  have hb := B.bytes
  have hr := B.returns
  have hts := atoms_spec (ws := wsX6_tryHaulings) B.pre
  have hown : s.vm.findClass RX6 = some m.cls := findClass_of_methodNamed B.named
  have hlk := B.notSynchronized
  have X : CallFix p m c cX6_tryHaulings 6 s _ wsX6_tryHaulings RX6 := ⟨hx, hb, hml, hown, hts⟩
  have Z := zz_enter hC
  generalize va_A (zg_W XL ad cA σ) sz = A at Z ⊢
  have hl := lv_entry ([.ref (ad 0), .int a1, .int a2, .int a3]) (n := 6) (Nat.le_of_ble_eq_true rfl)
  rw [lg_entry_eq]
  generalize (lg_sl ([.ref (ad 0), .int a1, .int a2, .int a3]) ++ List.replicate (6 - (lg_sl ([.ref (ad 0), .int a1, .int a2, .int a3])).length) Slot.unset).toArray = ls at hl ⊢
  have hl : lv_has ls 6 [(0, .ref (ad 0)), (1, .int a1), (2, .int a2), (3, .int a3)] := hl
  unfold f_X6_tryHaulings at hf
  have b41_ : ∀ (q4v : Nat) (hq4v : XL.2.1 q4v = 0) (σ : zg_S), B_X6_tryHaulings_41 (G_th d) a1 a2 a3 q4v σ = some (r0, σf) → ∀ (H : Heap) (locs : List Loc) (ls : Array Slot), zz_S D V A s (zg_W XL ad cA σ) (zg_T XL cA) H locs → lv_has ls 6 [(0, .ref (ad 0)), (3, .int a3), (4, .ref (ad q4v))] → W p l e (headSpec wsX6_tryHaulings { frames := (5 + (d + 1)), cells := 0, slots := 0, locals := (116 + 25 * (d + 1)) }).room s m (List.toArray [.ref (ad 0), .int a1, .int a2, .int a3]) below meth c H locs 0 0 (MQ below (va_Qv (fun (_ : Unit) => True) (fun _ t => zz_B D A (zg_W XL ad cA σf) (zg_T XL cA) t) A) (List.toArray [.ref (ad 0), .int a1, .int a2, .int a3]) s 0 0 A) (F0 m 41 ls []) := by
    intro q4v hq4v σ hf41_ H41_ locs41_ ls41_ Z41_ hl41_
    unfold B_X6_tryHaulings_41 at hf41_
    refine lv_aload_n hx hb dX6_tryHaulings_41 rfl (lv_at hl41_ 0 rfl) ?_
    refine lv_aload hx hb dX6_tryHaulings_42 (lv_at hl41_ 2 rfl) ?_
    refine zy_get (v := .int (σ q4v 11)) X Z41_ xL_ok hq4v rfl rfl (fun w h => List.mem_cons_of_mem _ (List.mem_append_left _ (List.mem_append_left _ (List.mem_append_right _ h)))) 11 rfl (zz_m 2 rfl) rfl dX6_tryHaulings_44 ?_
    obtain ⟨σ1, es2, hf3⟩ := zLet hf41_
    clear hf41_
    refine zy_put (v := σ q4v 11) (σ' := σ1) X Z41_ xL_ok xk_0 rfl rfl (fun w h => List.mem_cons_of_mem _ (List.mem_append_left _ (List.mem_append_left _ (List.mem_append_left _ (List.mem_append_right _ h))))) tyX6 tyX6_ok nmX6 13 rfl (zz_m 3 rfl) rfl rfl rfl (fun _ => rfl) (fun _ => rfl) es2 dX6_tryHaulings_47 (fun H4 lo5 Z6 => ?_)
    clear Z41_ es2
    refine lv_aload_n hx hb dX6_tryHaulings_50 rfl (lv_at hl41_ 0 rfl) ?_
    refine lv_iload_n hx hb dX6_tryHaulings_51 rfl (lv_at hl41_ 1 rfl) ?_
    obtain ⟨σ7, es8, hf9⟩ := zLet hf3
    clear hf3
    refine zy_put (v := a3) (σ' := σ7) X Z6 xL_ok xk_0 rfl rfl (fun w h => List.mem_cons_of_mem _ (List.mem_append_left _ (List.mem_append_left _ (List.mem_append_left _ (List.mem_append_right _ h))))) tyX6 tyX6_ok nmX6 14 rfl (zz_m 4 rfl) rfl rfl rfl (fun _ => rfl) (fun _ => rfl) es8 dX6_tryHaulings_52 (fun H10 lo11 Z12 => ?_)
    clear Z6 es8
    exact zy_vret X hr hlk Z12 (zEnd hf9) dX6_tryHaulings_55
  have b59_ : ∀ (k59_ : Nat) (q4v : Nat) (x5 : Int32) (hq4v : XL.2.1 q4v = 0) (σ : zg_S), L_X6_tryHaulings_59 (G_th d) a1 a2 a3 k59_ q4v x5 σ = some (r0, σf) → ∀ (H : Heap) (locs : List Loc) (ls : Array Slot), zz_S D V A s (zg_W XL ad cA σ) (zg_T XL cA) H locs → lv_has ls 6 [(0, .ref (ad 0)), (1, .int a1), (2, .int a2), (3, .int a3), (4, .ref (ad q4v)), (5, .int x5)] → W p l e (headSpec wsX6_tryHaulings { frames := (5 + (d + 1)), cells := 0, slots := 0, locals := (116 + 25 * (d + 1)) }).room s m (List.toArray [.ref (ad 0), .int a1, .int a2, .int a3]) below meth c H locs 0 0 (MQ below (va_Qv (fun (_ : Unit) => True) (fun _ t => zz_B D A (zg_W XL ad cA σf) (zg_T XL cA) t) A) (List.toArray [.ref (ad 0), .int a1, .int a2, .int a3]) s 0 0 A) (F0 m 59 ls []) := by
    intro k59_
    induction k59_ with
    | zero =>
        intro q4v x5 hq4v σ hf59_ H59_ locs59_ ls59_ Z59_ hl59_
        exact zNone hf59_
    | succ k59_ ih59_ =>
        intro q4v x5 hq4v σ hf59_ H59_ locs59_ ls59_ Z59_ hl59_
        replace hf59_ : B_X6_tryHaulings_59 (G_th d) a1 a2 a3 (L_X6_tryHaulings_59 (G_th d) a1 a2 a3 k59_) q4v x5 σ = some (r0, σf) := hf59_
        unfold B_X6_tryHaulings_59 at hf59_
        refine lv_iload hx hb dX6_tryHaulings_59 (lv_at hl59_ 5 rfl) ?_
        refine lv_iconst (v := 3) hx hb dX6_tryHaulings_61 (by decide) ?_
        refine lv_icmp_ge (tgt := 111) hx hb dX6_tryHaulings_62 (by decide) (fun b13 => ?_) (fun b13 => ?_)
        · have hf14 := zYes hf59_ b13
          clear hf59_
          exact zy_vret X hr hlk Z59_ (zEnd hf14) dX6_tryHaulings_111
        · have hf15 := zNot hf59_ b13
          clear hf59_
          refine lv_aload_n hx hb dX6_tryHaulings_65 rfl (lv_at hl59_ 0 rfl) ?_
          refine zy_get (v := .ref (ad 2)) X Z59_ xL_ok xk_0 rfl rfl (fun w h => List.mem_cons_of_mem _ (List.mem_append_left _ (List.mem_append_left _ (List.mem_append_left _ (List.mem_append_right _ h))))) 4 rfl (zz_m 1 rfl) rfl dX6_tryHaulings_66 ?_
          refine lv_iload_n hx hb dX6_tryHaulings_69 rfl (lv_at hl59_ 1 rfl) ?_
          refine lv_iconst (v := 1) hx hb dX6_tryHaulings_70 (by decide) ?_
          refine lv_iadd hx hb dX6_tryHaulings_71 ?_
          obtain ⟨⟨i16, j17⟩, hf18⟩ := zG hf15
          clear hf15
          refine zy_ald (v := (81 + 12 * (Int32.toNatClampNeg (a1 + 1)))) (C := RX0) X Z59_ xL_ok xk_2 rfl rfl xl_2 rfl i16 rfl dX6_tryHaulings_72 ?_
          refine lv_aload hx hb dX6_tryHaulings_73 (lv_at hl59_ 4 rfl) ?_
          obtain ⟨r19, σ20, hc21, hf22⟩ := zBd hf18
          clear hf18
          refine zy_cv (WS1 := zg_W XL ad cA σ20) (TYS1 := zg_T XL cA) Z59_ (va_runV (As := [.ref (ad q4v)]) (rest := []) X (c_X0_takeOver l D V ad cA (81 + 12 * (Int32.toNatClampNeg (a1 + 1))) q4v (xA j17) hq4v σ r19 σ20 hc21 H59_.size) (cwV 1 hts gX6_tryHaulings_X0_takeOver rfl rfl rfl ⟨rfl, zh_X0_takeOver⟩ ⟨show 1 + 1 ≤ 5 + (d + 1) by omega, show 8 + (3 + 11) + 21 ≤ 116 + 25 * (d + 1) by omega⟩) (zy_pV (ci := 0) Z59_ xL_ok (xA j17) rfl rfl) rfl rfl hl59_.1 rfl (lv_room (Nat.le_of_ble_eq_true rfl)) dX6_tryHaulings_75 ⟨Nat.le_of_ble_eq_true rfl, Nat.le_of_ble_eq_true rfl⟩) (fun H23 lo24 Z25 => ?_)
          clear Z59_ hc21
          refine lv_aload_n hx hb dX6_tryHaulings_78 rfl (lv_at hl59_ 0 rfl) ?_
          refine zy_get (v := .ref (ad 2)) X Z25 xL_ok xk_0 rfl rfl (fun w h => List.mem_cons_of_mem _ (List.mem_append_left _ (List.mem_append_left _ (List.mem_append_left _ (List.mem_append_right _ h))))) 4 rfl (zz_m 1 rfl) rfl dX6_tryHaulings_79 ?_
          refine lv_iload_n hx hb dX6_tryHaulings_82 rfl (lv_at hl59_ 1 rfl) ?_
          refine lv_iconst (v := 1) hx hb dX6_tryHaulings_83 (by decide) ?_
          refine lv_iadd hx hb dX6_tryHaulings_84 ?_
          refine zy_ald (v := (81 + 12 * (Int32.toNatClampNeg (a1 + 1)))) (C := RX0) X Z25 xL_ok xk_2 rfl rfl xl_2 rfl i16 rfl dX6_tryHaulings_85 ?_
          refine lv_iload hx hb dX6_tryHaulings_86 (lv_at hl59_ 5 rfl) ?_
          obtain ⟨r26, σ27, hc28, hf29⟩ := zBd hf22
          clear hf22
          refine zy_cv (WS1 := zg_W XL ad cA σ27) (TYS1 := zg_T XL cA) Z25 (va_runV (As := [.int x5]) (rest := []) X (c_X0_passHour l D V ad cA (81 + 12 * (Int32.toNatClampNeg (a1 + 1))) x5 (xA j17) σ20 r26 σ27 hc28 H23.size) (cwV 1 hts gX6_tryHaulings_X0_passHour rfl rfl rfl ⟨rfl, zh_X0_passHour⟩ ⟨show 4 + 1 ≤ 5 + (d + 1) by omega, show 8 + (5 + 11) + 92 ≤ 116 + 25 * (d + 1) by omega⟩) (zy_pV (ci := 0) Z25 xL_ok (xA j17) rfl rfl) rfl rfl hl59_.1 rfl (lv_room (Nat.le_of_ble_eq_true rfl)) dX6_tryHaulings_88 ⟨Nat.le_of_ble_eq_true rfl, Nat.le_of_ble_eq_true rfl⟩) (fun H30 lo31 Z32 => ?_)
          clear Z25 hc28
          refine lv_aload_n hx hb dX6_tryHaulings_91 rfl (lv_at hl59_ 0 rfl) ?_
          refine lv_iload_n hx hb dX6_tryHaulings_92 rfl (lv_at hl59_ 1 rfl) ?_
          refine lv_iconst (v := 1) hx hb dX6_tryHaulings_93 (by decide) ?_
          refine lv_iadd hx hb dX6_tryHaulings_94 ?_
          refine lv_iload_n hx hb dX6_tryHaulings_95 rfl (lv_at hl59_ 2 rfl) ?_
          refine lv_iload_n hx hb dX6_tryHaulings_96 rfl (lv_at hl59_ 3 rfl) ?_
          refine lv_iconst (v := 3) hx hb dX6_tryHaulings_97 (by decide) ?_
          refine lv_imul hx hb dX6_tryHaulings_98 ?_
          refine lv_iload hx hb dX6_tryHaulings_99 (lv_at hl59_ 5 rfl) ?_
          refine lv_iadd hx hb dX6_tryHaulings_101 ?_
          obtain ⟨r33, σ34, hc35, hf36⟩ := zBd hf29
          clear hf29
          refine zy_cv (WS1 := zg_W XL ad cA σ34) (TYS1 := zg_T XL cA) Z32 (va_runV (As := [.int (a1 + 1), .int a2, .int ((a3 * 3) + x5)]) (rest := []) X ((ih) (a1 + 1) a2 ((a3 * 3) + x5) σ27 r33 σ34 hc35 H30.size) (cwV 3 hts gX6_tryHaulings_X6_tryHaulings rfl rfl rfl ⟨rfl, zh_X6_tryHaulings⟩ ⟨show 5 + d + 1 ≤ 5 + (d + 1) by omega, show 8 + (6 + 11) + (116 + 25 * d) ≤ 116 + 25 * (d + 1) by omega⟩) (zy_pV (ci := 6) Z32 xL_ok xk_0 rfl rfl) rfl rfl hl59_.1 rfl (lv_room (Nat.le_of_ble_eq_true rfl)) dX6_tryHaulings_102 ⟨Nat.le_of_ble_eq_true rfl, Nat.le_of_ble_eq_true rfl⟩) (fun H37 lo38 Z39 => ?_)
          clear Z32 hc35
          refine lv_iinc (v := (x5 + 1)) (lv' := [(5, .int (x5 + 1)), (0, .ref (ad 0)), (1, .int a1), (2, .int a2), (3, .int a3), (4, .ref (ad q4v))]) hx hb dX6_tryHaulings_105 hl59_ (k := 5) rfl rfl (by decide) rfl (fun ls41 hl40 => ?_)
          clear hl59_
          refine lv_goto (tgt := 59) hx hb dX6_tryHaulings_108 (by decide) ?_
          exact ih59_ q4v (x5 + 1) hq4v σ34 hf36 _ _ _ Z39 (lv_sub hl40 [1, 2, 3, 4, 5, 0] rfl)
  refine lv_iload_n hx hb dX6_tryHaulings_0 rfl (lv_at hl 1 rfl) ?_
  refine lv_if_lt (tgt := 9) hx hb dX6_tryHaulings_1 (by decide) (fun b42 => ?_) (fun b42 => ?_)
  · have hf43 := zYes hf b42
    clear hf
    exact zy_vret X hr hlk Z (zEnd hf43) dX6_tryHaulings_9
  · have hf44 := zNot hf b42
    clear hf
    refine lv_iload_n hx hb dX6_tryHaulings_4 rfl (lv_at hl 1 rfl) ?_
    refine lv_iconst (v := 5) hx hb dX6_tryHaulings_5 (by decide) ?_
    refine lv_icmp_le (tgt := 10) hx hb dX6_tryHaulings_6 (by decide) (fun b45 => ?_) (fun b45 => ?_)
    · have hf46 := zYes hf44 b45
      clear hf44
      refine lv_aload_n hx hb dX6_tryHaulings_10 rfl (lv_at hl 0 rfl) ?_
      refine zy_get (v := .ref (ad 2)) X Z xL_ok xk_0 rfl rfl (fun w h => List.mem_cons_of_mem _ (List.mem_append_left _ (List.mem_append_left _ (List.mem_append_left _ (List.mem_append_right _ h))))) 4 rfl (zz_m 1 rfl) rfl dX6_tryHaulings_11 ?_
      refine lv_iload_n hx hb dX6_tryHaulings_14 rfl (lv_at hl 1 rfl) ?_
      obtain ⟨⟨i47, j48⟩, hf49⟩ := zG hf46
      clear hf46
      refine zy_ald (v := (81 + 12 * (Int32.toNatClampNeg a1))) (C := RX0) X Z xL_ok xk_2 rfl rfl xl_2 rfl i47 rfl dX6_tryHaulings_15 ?_
      refine lv_astore (lv' := [(4, .ref (ad (81 + 12 * (Int32.toNatClampNeg a1)))), (0, .ref (ad 0)), (1, .int a1), (2, .int a2), (3, .int a3)]) hx hb dX6_tryHaulings_16 hl (by decide) rfl (fun ls51 hl50 => ?_)
      clear hl
      refine lv_aload hx hb dX6_tryHaulings_18 (lv_at hl50 0 rfl) ?_
      refine zy_get (v := .int (σ (81 + 12 * (Int32.toNatClampNeg a1)) 11)) X Z xL_ok (xA j48) rfl rfl (fun w h => List.mem_cons_of_mem _ (List.mem_append_left _ (List.mem_append_left _ (List.mem_append_right _ h)))) 11 rfl (zz_m 2 rfl) rfl dX6_tryHaulings_20 ?_
      refine lv_aload_n hx hb dX6_tryHaulings_23 rfl (lv_at hl50 1 rfl) ?_
      refine zy_get (v := .int (σ 0 13)) X Z xL_ok xk_0 rfl rfl (fun w h => List.mem_cons_of_mem _ (List.mem_append_left _ (List.mem_append_left _ (List.mem_append_left _ (List.mem_append_right _ h))))) 13 rfl (zz_m 3 rfl) rfl dX6_tryHaulings_24 ?_
      refine lv_icmp_lt (tgt := 31) hx hb dX6_tryHaulings_27 (by decide) (fun b52 => ?_) (fun b52 => ?_)
      · have hf53 := zYes hf49 b52
        clear hf49
        refine lv_iload_n hx hb dX6_tryHaulings_31 rfl (lv_at hl50 2 rfl) ?_
        refine lv_iload_n hx hb dX6_tryHaulings_32 rfl (lv_at hl50 3 rfl) ?_
        refine lv_icmp_ge (tgt := 41) hx hb dX6_tryHaulings_33 (by decide) (fun b54 => ?_) (fun b54 => ?_)
        · have hf55 := zYes hf53 b54
          clear hf53
          exact b41_ (81 + 12 * (Int32.toNatClampNeg a1)) (xA j48) σ hf55 _ _ _ Z (lv_sub hl50 [1, 4, 0] rfl)
        · have hf56 := zNot hf53 b54
          clear hf53
          refine lv_iload_n hx hb dX6_tryHaulings_36 rfl (lv_at hl50 2 rfl) ?_
          refine lv_iconst (v := 5) hx hb dX6_tryHaulings_37 (by decide) ?_
          refine lv_icmp_ne (tgt := 56) hx hb dX6_tryHaulings_38 (by decide) (fun b57 => ?_) (fun b57 => ?_)
          · have hf58 := zNot hf56 b57
            clear hf56
            refine lv_iconst (v := 0) hx hb dX6_tryHaulings_56 (by decide) ?_
            refine lv_istore (lv' := [(5, .int 0), (4, .ref (ad (81 + 12 * (Int32.toNatClampNeg a1)))), (0, .ref (ad 0)), (1, .int a1), (2, .int a2), (3, .int a3)]) hx hb dX6_tryHaulings_57 hl50 (by decide) rfl (fun ls60 hl59 => ?_)
            clear hl50
            exact b59_ zfu (81 + 12 * (Int32.toNatClampNeg a1)) 0 (xA j48) σ hf58 _ _ _ Z (lv_sub hl59 [2, 3, 4, 5, 1, 0] rfl)
          · have hf61 := zYes hf56 b57
            clear hf56
            exact b41_ (81 + 12 * (Int32.toNatClampNeg a1)) (xA j48) σ hf61 _ _ _ Z (lv_sub hl50 [1, 4, 0] rfl)
      · have hf62 := zNot hf49 b52
        clear hf49
        exact zy_vret X hr hlk Z (zEnd hf62) dX6_tryHaulings_30
    · have hf63 := zNot hf44 b45
      clear hf44
      exact zy_vret X hr hlk Z (zEnd hf63) dX6_tryHaulings_9

theorem c_G_th (l : Launch) (D : va_G) (V : zz_V) (ad : Nat → Nat) (cA : Nat → ClassId) : ∀ d : Nat, zG_th l D V ad cA d := by
  intro d
  induction d with
  | zero => exact (fun _ _ _ _ _ _ h => zNone h)
  | succ d ih => exact (fun z0 z1 z2 σ r0 σf h => c_X6_tryHaulings_s l D V ad cA d ih z0 z1 z2 σ r0 σf h)
def f_X6_best (a1 : Int32) (a2 : Int32) (σ : zg_S) : Option (Int32 × zg_S) := zbd (f_X6_within a1 1 5 σ) (fun (r1 : Int32) (σ2 : zg_S) => (if r1 = 0 then some ((-1000000001), σ2) else zbd (f_X6_within a2 0 1 σ2) (fun (r11 : Int32) (σ12 : zg_S) => (if r11 = 0 then some ((-1000000001), σ12) else zlet (zg_up σ12 0 13 2147483647) (fun (σ20 : zg_S) => zlet (zg_up σ20 0 14 0) (fun (σ26 : zg_S) => zbd (f_X0_takeOver 81 153 σ26) (fun (r32 : Int32) (σ33 : zg_S) => zbd (G_th 8 0 0 a1 0 σ33) (fun (r39 : Int32) (σ40 : zg_S) => (if a2 = 0 then some (σ40 0 14, σ40) else some (σ40 0 13, σ40))))))))))
set_option maxHeartbeats 4000000 in
set_option maxRecDepth 100000 in
theorem c_X6_best (l : Launch) (D : va_G) (V : zz_V) (ad : Nat → Nat) (cA : Nat → ClassId) (a1 : Int32) (a2 : Int32)  (σ : zg_S) (r0 : Int32) (σf : zg_S) (hf : f_X6_best a1 a2 σ = some (r0, σf)) : zM_I l yX6_best wsX6_best 14 341 D V XL ad cA [.ref (ad 0), .int a1, .int a2] σ r0 σf := by
  intro sz
  refine Met.ofW (cc := cX6_best) (maxL := 3) (ret := (some .int)) (by decide) rfl ?_
  intro p e s m args below meth c s₁ B hml hv
  obtain ⟨rfl, hC⟩ := hv
  have hx := B.exec
  have hb := B.bytes
  have hr := B.returns
  have hts := atoms_spec (ws := wsX6_best) B.pre
  have hown : s.vm.findClass RX6 = some m.cls := findClass_of_methodNamed B.named
  have hlk := B.notSynchronized
  have X : CallFix p m c cX6_best 3 s _ wsX6_best RX6 := ⟨hx, hb, hml, hown, hts⟩
  have Z := zz_enter hC
  generalize va_A (zg_W XL ad cA σ) sz = A at Z ⊢
  have hl := lv_entry ([.ref (ad 0), .int a1, .int a2]) (n := 3) (Nat.le_of_ble_eq_true rfl)
  rw [lg_entry_eq]
  generalize (lg_sl ([.ref (ad 0), .int a1, .int a2]) ++ List.replicate (3 - (lg_sl ([.ref (ad 0), .int a1, .int a2])).length) Slot.unset).toArray = ls at hl ⊢
  have hl : lv_has ls 3 [(0, .ref (ad 0)), (1, .int a1), (2, .int a2)] := hl
  unfold f_X6_best at hf
  refine lv_iload_n hx hb dX6_best_0 rfl (lv_at hl 1 rfl) ?_
  refine lv_iconst (v := 1) hx hb dX6_best_1 (by decide) ?_
  refine lv_iconst (v := 5) hx hb dX6_best_2 (by decide) ?_
  obtain ⟨r1, σ2, hc3, hf4⟩ := zBd hf
  clear hf
  refine zy_ci (r0 := r1) (WS1 := zg_W XL ad cA σ2) (TYS1 := zg_T XL cA) Z (va_runS (As := [.int a1, .int 1, .int 5]) (rest := []) X (c_X6_within l D V ad cA a1 1 5 σ r1 σ2 hc3 s.heap.size) (va_cwS 3 hts gX6_best_X6_within rfl rfl rfl zh_X6_within ⟨Nat.le_of_ble_eq_true rfl, Nat.le_of_ble_eq_true rfl⟩) (zz_pS Z) rfl rfl hl.1 rfl (lv_room (Nat.le_of_ble_eq_true rfl)) dX6_best_3 ⟨Nat.le_of_ble_eq_true rfl, Nat.le_of_ble_eq_true rfl⟩) (fun H5 lo6 Z7 => ?_)
  clear Z hc3
  refine lv_if_eq (tgt := 18) hx hb dX6_best_6 (by decide) (fun b8 => ?_) (fun b8 => ?_)
  · have hf9 := zYes hf4 b8
    clear hf4
    refine lv_ldc (v := (-1000000001)) hx hb hown (hts _ (zz_m 1 rfl)) dX6_best_18 ?_
    exact zy_iret X hr hlk Z7 (zEnd hf9) dX6_best_20
  · have hf10 := zNot hf4 b8
    clear hf4
    refine lv_iload_n hx hb dX6_best_9 rfl (lv_at hl 2 rfl) ?_
    refine lv_iconst (v := 0) hx hb dX6_best_10 (by decide) ?_
    refine lv_iconst (v := 1) hx hb dX6_best_11 (by decide) ?_
    obtain ⟨r11, σ12, hc13, hf14⟩ := zBd hf10
    clear hf10
    refine zy_ci (r0 := r11) (WS1 := zg_W XL ad cA σ12) (TYS1 := zg_T XL cA) Z7 (va_runS (As := [.int a2, .int 0, .int 1]) (rest := []) X (c_X6_within l D V ad cA a2 0 1 σ2 r11 σ12 hc13 H5.size) (va_cwS 3 hts gX6_best_X6_within rfl rfl rfl zh_X6_within ⟨Nat.le_of_ble_eq_true rfl, Nat.le_of_ble_eq_true rfl⟩) (zz_pS Z7) rfl rfl hl.1 rfl (lv_room (Nat.le_of_ble_eq_true rfl)) dX6_best_12 ⟨Nat.le_of_ble_eq_true rfl, Nat.le_of_ble_eq_true rfl⟩) (fun H15 lo16 Z17 => ?_)
    clear Z7 hc13
    refine lv_if_ne (tgt := 21) hx hb dX6_best_15 (by decide) (fun b18 => ?_) (fun b18 => ?_)
    · have hf19 := zNot hf14 b18
      clear hf14
      refine lv_aload_n hx hb dX6_best_21 rfl (lv_at hl 0 rfl) ?_
      refine lv_ldc (v := 2147483647) hx hb hown (hts _ (zz_m 2 rfl)) dX6_best_22 ?_
      obtain ⟨σ20, es21, hf22⟩ := zLet hf19
      clear hf19
      refine zy_put (v := 2147483647) (σ' := σ20) X Z17 xL_ok xk_0 rfl rfl (fun w h => List.mem_cons_of_mem _ (List.mem_append_left _ (List.mem_append_left _ (List.mem_append_left _ (List.mem_append_right _ h))))) tyX6 tyX6_ok nmX6 13 rfl (zz_m 3 rfl) rfl rfl rfl (fun _ => rfl) (fun _ => rfl) es21 dX6_best_24 (fun H23 lo24 Z25 => ?_)
      clear Z17 es21
      refine lv_aload_n hx hb dX6_best_27 rfl (lv_at hl 0 rfl) ?_
      refine lv_iconst (v := 0) hx hb dX6_best_28 (by decide) ?_
      obtain ⟨σ26, es27, hf28⟩ := zLet hf22
      clear hf22
      refine zy_put (v := 0) (σ' := σ26) X Z25 xL_ok xk_0 rfl rfl (fun w h => List.mem_cons_of_mem _ (List.mem_append_left _ (List.mem_append_left _ (List.mem_append_left _ (List.mem_append_right _ h))))) tyX6 tyX6_ok nmX6 14 rfl (zz_m 4 rfl) rfl rfl rfl (fun _ => rfl) (fun _ => rfl) es27 dX6_best_29 (fun H29 lo30 Z31 => ?_)
      clear Z25 es27
      refine lv_aload_n hx hb dX6_best_32 rfl (lv_at hl 0 rfl) ?_
      refine zy_get (v := .ref (ad 2)) X Z31 xL_ok xk_0 rfl rfl (fun w h => List.mem_cons_of_mem _ (List.mem_append_left _ (List.mem_append_left _ (List.mem_append_left _ (List.mem_append_right _ h))))) 4 rfl (zz_m 5 rfl) rfl dX6_best_33 ?_
      refine lv_iconst (v := 0) hx hb dX6_best_36 (by decide) ?_
      refine zy_ald (v := 81) (C := RX0) X Z31 xL_ok xk_2 rfl rfl xl_2 rfl (zz_in 0 6 rfl) (by decide) dX6_best_37 ?_
      refine lv_aload_n hx hb dX6_best_38 rfl (lv_at hl 0 rfl) ?_
      refine zy_get (v := .ref (ad 153)) X Z31 xL_ok xk_0 rfl rfl (fun w h => List.mem_cons_of_mem _ (List.mem_append_left _ (List.mem_append_left _ (List.mem_append_left _ (List.mem_append_right _ h))))) 1 rfl (zz_m 6 rfl) rfl dX6_best_39 ?_
      obtain ⟨r32, σ33, hc34, hf35⟩ := zBd hf28
      clear hf28
      refine zy_cv (WS1 := zg_W XL ad cA σ33) (TYS1 := zg_T XL cA) Z31 (va_runV (As := [.ref (ad 153)]) (rest := []) X (c_X0_takeOver l D V ad cA 81 153 xk_81 xk_153 σ26 r32 σ33 hc34 H29.size) (cwV 1 hts gX6_best_X0_takeOver rfl rfl rfl ⟨rfl, zh_X0_takeOver⟩ ⟨Nat.le_of_ble_eq_true rfl, Nat.le_of_ble_eq_true rfl⟩) (zy_pV (ci := 0) Z31 xL_ok xk_81 rfl rfl) rfl rfl hl.1 rfl (lv_room (Nat.le_of_ble_eq_true rfl)) dX6_best_42 ⟨Nat.le_of_ble_eq_true rfl, Nat.le_of_ble_eq_true rfl⟩) (fun H36 lo37 Z38 => ?_)
      clear Z31 hc34
      refine lv_aload_n hx hb dX6_best_45 rfl (lv_at hl 0 rfl) ?_
      refine lv_iconst (v := 0) hx hb dX6_best_46 (by decide) ?_
      refine lv_iload_n hx hb dX6_best_47 rfl (lv_at hl 1 rfl) ?_
      refine lv_iconst (v := 0) hx hb dX6_best_48 (by decide) ?_
      obtain ⟨r39, σ40, hc41, hf42⟩ := zBd hf35
      clear hf35
      refine zy_cv (WS1 := zg_W XL ad cA σ40) (TYS1 := zg_T XL cA) Z38 (va_runV (As := [.int 0, .int a1, .int 0]) (rest := []) X (((c_G_th l D V ad cA 8)) 0 a1 0 σ33 r39 σ40 hc41 H36.size) (cwV 3 hts gX6_best_X6_tryHaulings rfl rfl rfl ⟨rfl, zh_X6_tryHaulings⟩ ⟨Nat.le_of_ble_eq_true rfl, Nat.le_of_ble_eq_true rfl⟩) (zy_pV (ci := 6) Z38 xL_ok xk_0 rfl rfl) rfl rfl hl.1 rfl (lv_room (Nat.le_of_ble_eq_true rfl)) dX6_best_49 ⟨Nat.le_of_ble_eq_true rfl, Nat.le_of_ble_eq_true rfl⟩) (fun H43 lo44 Z45 => ?_)
      clear Z38 hc41
      refine lv_iload_n hx hb dX6_best_52 rfl (lv_at hl 2 rfl) ?_
      refine lv_if_ne (tgt := 63) hx hb dX6_best_53 (by decide) (fun b46 => ?_) (fun b46 => ?_)
      · have hf47 := zNot hf42 b46
        clear hf42
        refine lv_aload_n hx hb dX6_best_63 rfl (lv_at hl 0 rfl) ?_
        refine zy_get (v := .int (σ40 0 13)) X Z45 xL_ok xk_0 rfl rfl (fun w h => List.mem_cons_of_mem _ (List.mem_append_left _ (List.mem_append_left _ (List.mem_append_left _ (List.mem_append_right _ h))))) 13 rfl (zz_m 3 rfl) rfl dX6_best_64 ?_
        exact zy_iret X hr hlk Z45 (zEnd hf47) dX6_best_67
      · have hf48 := zYes hf42 b46
        clear hf42
        refine lv_aload_n hx hb dX6_best_56 rfl (lv_at hl 0 rfl) ?_
        refine zy_get (v := .int (σ40 0 14)) X Z45 xL_ok xk_0 rfl rfl (fun w h => List.mem_cons_of_mem _ (List.mem_append_left _ (List.mem_append_left _ (List.mem_append_left _ (List.mem_append_right _ h))))) 14 rfl (zz_m 4 rfl) rfl dX6_best_57 ?_
        refine lv_goto (tgt := 67) hx hb dX6_best_60 (by decide) ?_
        exact zy_iret X hr hlk Z45 (zEnd hf48) dX6_best_67
    · have hf49 := zYes hf14 b18
      clear hf14
      refine lv_ldc (v := (-1000000001)) hx hb hown (hts _ (zz_m 1 rfl)) dX6_best_18 ?_
      exact zy_iret X hr hlk Z17 (zEnd hf49) dX6_best_20
def f_X6_book (a1 : Int32) (σ : zg_S) : Option (Int32 × zg_S) := (if a1 = 0 then some (σ 153 11, σ) else (if a1 = 1 then some (σ 153 10, σ) else (if a1 = 2 then some (σ 153 12, σ) else (if a1 = 3 then zbd (f_X0_allGoods 153 σ) (fun (r12 : Int32) (σ13 : zg_S) => some (r12, σ13)) else some ((-1000000001), σ)))))
set_option maxHeartbeats 4000000 in
set_option maxRecDepth 100000 in
theorem c_X6_book (l : Launch) (D : va_G) (V : zz_V) (ad : Nat → Nat) (cA : Nat → ClassId) (a1 : Int32)  (σ : zg_S) (r0 : Int32) (σf : zg_S) (hf : f_X6_book a1 σ = some (r0, σf)) : zM_I l yX6_book wsX6_book 1 22 D V XL ad cA [.ref (ad 0), .int a1] σ r0 σf := by
  intro sz
  refine Met.ofW (cc := cX6_book) (maxL := 2) (ret := (some .int)) (by decide) rfl ?_
  intro p e s m args below meth c s₁ B hml hv
  obtain ⟨rfl, hC⟩ := hv
  have hx := B.exec
  have hb := B.bytes
  have hr := B.returns
  have hts := atoms_spec (ws := wsX6_book) B.pre
  have hown : s.vm.findClass RX6 = some m.cls := findClass_of_methodNamed B.named
  have hlk := B.notSynchronized
  have X : CallFix p m c cX6_book 2 s _ wsX6_book RX6 := ⟨hx, hb, hml, hown, hts⟩
  have Z := zz_enter hC
  generalize va_A (zg_W XL ad cA σ) sz = A at Z ⊢
  have hl := lv_entry ([.ref (ad 0), .int a1]) (n := 2) (Nat.le_of_ble_eq_true rfl)
  rw [lg_entry_eq]
  generalize (lg_sl ([.ref (ad 0), .int a1]) ++ List.replicate (2 - (lg_sl ([.ref (ad 0), .int a1])).length) Slot.unset).toArray = ls at hl ⊢
  have hl : lv_has ls 2 [(0, .ref (ad 0)), (1, .int a1)] := hl
  unfold f_X6_book at hf
  refine lv_iload_n hx hb dX6_book_0 rfl (lv_at hl 1 rfl) ?_
  by_cases w1 : a1 = 0
  · have hf2 := zYes hf w1
    clear hf
    refine zz_v w1 ?_
    refine lv_tableIn (x := 0) (off := 31) (tgt := 32) hx hb dX6_book_1 (by decide) (by decide) rfl (by decide) ?_
    refine lv_aload_n hx hb dX6_book_32 rfl (lv_at hl 0 rfl) ?_
    refine zy_get (v := .ref (ad 153)) X Z xL_ok xk_0 rfl rfl (fun w h => List.mem_cons_of_mem _ (List.mem_append_left _ (List.mem_append_left _ (List.mem_append_right _ h)))) 1 rfl (zz_m 1 rfl) rfl dX6_book_33 ?_
    refine zy_get (v := .int (σ 153 11)) X Z xL_ok xk_153 rfl rfl (fun w h => List.mem_cons_of_mem _ (List.mem_append_left _ (List.mem_append_right _ h))) 11 rfl (zz_m 2 rfl) rfl dX6_book_36 ?_
    exact zy_iret X hr hlk Z (zEnd hf2) dX6_book_39
  · have hf3 := zNot hf w1
    clear hf
    by_cases w4 : a1 = 1
    · have hf5 := zYes hf3 w4
      clear hf3
      refine zz_v w4 ?_
      refine lv_tableIn (x := 1) (off := 39) (tgt := 40) hx hb dX6_book_1 (by decide) (by decide) rfl (by decide) ?_
      refine lv_aload_n hx hb dX6_book_40 rfl (lv_at hl 0 rfl) ?_
      refine zy_get (v := .ref (ad 153)) X Z xL_ok xk_0 rfl rfl (fun w h => List.mem_cons_of_mem _ (List.mem_append_left _ (List.mem_append_left _ (List.mem_append_right _ h)))) 1 rfl (zz_m 1 rfl) rfl dX6_book_41 ?_
      refine zy_get (v := .int (σ 153 10)) X Z xL_ok xk_153 rfl rfl (fun w h => List.mem_cons_of_mem _ (List.mem_append_left _ (List.mem_append_right _ h))) 10 rfl (zz_m 3 rfl) rfl dX6_book_44 ?_
      exact zy_iret X hr hlk Z (zEnd hf5) dX6_book_47
    · have hf6 := zNot hf3 w4
      clear hf3
      by_cases w7 : a1 = 2
      · have hf8 := zYes hf6 w7
        clear hf6
        refine zz_v w7 ?_
        refine lv_tableIn (x := 2) (off := 47) (tgt := 48) hx hb dX6_book_1 (by decide) (by decide) rfl (by decide) ?_
        refine lv_aload_n hx hb dX6_book_48 rfl (lv_at hl 0 rfl) ?_
        refine zy_get (v := .ref (ad 153)) X Z xL_ok xk_0 rfl rfl (fun w h => List.mem_cons_of_mem _ (List.mem_append_left _ (List.mem_append_left _ (List.mem_append_right _ h)))) 1 rfl (zz_m 1 rfl) rfl dX6_book_49 ?_
        refine zy_get (v := .int (σ 153 12)) X Z xL_ok xk_153 rfl rfl (fun w h => List.mem_cons_of_mem _ (List.mem_append_left _ (List.mem_append_right _ h))) 12 rfl (zz_m 4 rfl) rfl dX6_book_52 ?_
        exact zy_iret X hr hlk Z (zEnd hf8) dX6_book_55
      · have hf9 := zNot hf6 w7
        clear hf6
        by_cases w10 : a1 = 3
        · have hf11 := zYes hf9 w10
          clear hf9
          refine zz_v w10 ?_
          refine lv_tableIn (x := 3) (off := 55) (tgt := 56) hx hb dX6_book_1 (by decide) (by decide) rfl (by decide) ?_
          refine lv_aload_n hx hb dX6_book_56 rfl (lv_at hl 0 rfl) ?_
          refine zy_get (v := .ref (ad 153)) X Z xL_ok xk_0 rfl rfl (fun w h => List.mem_cons_of_mem _ (List.mem_append_left _ (List.mem_append_left _ (List.mem_append_right _ h)))) 1 rfl (zz_m 1 rfl) rfl dX6_book_57 ?_
          obtain ⟨r12, σ13, hc14, hf15⟩ := zBd hf11
          clear hf11
          refine zy_ci (r0 := r12) (WS1 := zg_W XL ad cA σ13) (TYS1 := zg_T XL cA) Z (va_runV (As := []) (rest := []) X (c_X0_allGoods l D V ad cA 153 xk_153 σ r12 σ13 hc14 s.heap.size) (cwV 0 hts gX6_book_X0_allGoods rfl rfl rfl ⟨rfl, zh_X0_allGoods⟩ ⟨Nat.le_of_ble_eq_true rfl, Nat.le_of_ble_eq_true rfl⟩) (zy_pV (ci := 0) Z xL_ok xk_153 rfl rfl) rfl rfl hl.1 rfl (lv_room (Nat.le_of_ble_eq_true rfl)) dX6_book_60 ⟨Nat.le_of_ble_eq_true rfl, Nat.le_of_ble_eq_true rfl⟩) (fun H16 lo17 Z18 => ?_)
          clear Z hc14
          exact zy_iret X hr hlk Z18 (zEnd hf15) dX6_book_63
        · have hf19 := zNot hf9 w10
          clear hf9
          have n20 := zNe (k := 0) (y := 0) (by decide) w1
          have n21 := zNe (k := 1) (y := 1) (by decide) w4
          have n22 := zNe (k := 2) (y := 2) (by decide) w7
          have n23 := zNe (k := 3) (y := 3) (by decide) w10
          refine lv_tableOut (tgt := 64) hx hb dX6_book_1 (by omega) (by decide) ?_
          refine lv_ldc (v := (-1000000001)) hx hb hown (hts _ (zz_m 5 rfl)) dX6_book_64 ?_
          exact zy_iret X hr hlk Z (zEnd hf19) dX6_book_66
def B_X6_check_113 (a1 : Int32) (x5 : Int32) (σ : zg_S) : Option (Int32 × zg_S) := some (1 + x5, σ)
def B_X6_check_145 (a1 : Int32) (x5 : Int32) (σ : zg_S) : Option (Int32 × zg_S) := some (2 + x5, σ)
def B_X6_check_64 (a1 : Int32) (rec64_ : Int32 → Int32 → Int32 → zg_S → Option (Int32 × zg_S)) (x2 : Int32) (x3 : Int32) (x4 : Int32) (σ : zg_S) : Option (Int32 × zg_S) := (if x3 ≤ x4 then (if x2 ≤ (2 * x3) then some (0, σ) else some (1 + (2 * x3), σ)) else zbd (f_X0_hauling 165 σ) (fun (r9 : Int32) (σ10 : zg_S) => zbd (f_X0_passHour 165 r9 σ10) (fun (r16 : Int32) (σ17 : zg_S) => (if x2 ≤ (2 * x4) then B_X6_check_113 a1 (2 * x4) σ17 else (if zin (2 * x4) 60 = true then (if (σ17 5 (Int32.toNatClampNeg (2 * x4))) = (σ17 165 11) then (if x2 ≤ ((2 * x4) + 1) then B_X6_check_145 a1 (2 * x4) σ17 else (if zin ((2 * x4) + 1) 60 = true then (if (σ17 5 (Int32.toNatClampNeg ((2 * x4) + 1))) = (σ17 165 6) then rec64_ x2 x3 (x4 + 1) σ17 else B_X6_check_145 a1 (2 * x4) σ17) else none)) else B_X6_check_113 a1 (2 * x4) σ17) else none)))))
def L_X6_check_64 (a1 : Int32) : Nat → Int32 → Int32 → Int32 → zg_S → Option (Int32 × zg_S) := zfix (fun _ _ _ _ => none) (B_X6_check_64 a1)
def f_X6_check (a1 : Int32) (σ : zg_S) : Option (Int32 × zg_S) := zlet (zg_up σ 0 11 0) (fun (σ47 : zg_S) => zbd (f_X6_within a1 1 30 σ47) (fun (r53 : Int32) (σ54 : zg_S) => (if r53 = 0 then some ((-1000000001), σ54) else (if (σ54 0 12) = 0 then some ((-1000000002), σ54) else zbd (f_X0_takeOver 165 177 σ54) (fun (r64 : Int32) (σ65 : zg_S) => zlet (if (9999 - (σ65 177 7)) < a1 then 9999 - (σ65 177 7) else a1) (fun (y71 : Int32) => L_X6_check_64 a1 zfu (σ 0 11) y71 0 σ65))))))
set_option maxHeartbeats 4000000 in
set_option maxRecDepth 100000 in
theorem c_X6_check (l : Launch) (D : va_G) (V : zz_V) (ad : Nat → Nat) (cA : Nat → ClassId) (a1 : Int32)  (σ : zg_S) (r0 : Int32) (σf : zg_S) (hf : f_X6_check a1 σ = some (r0, σf)) : zM_I l yX6_check wsX6_check 6 137 D V XL ad cA [.ref (ad 0), .int a1] σ r0 σf := by
  intro sz
  refine Met.ofW (cc := cX6_check) (maxL := 6) (ret := (some .int)) (by decide) rfl ?_
  intro p e s m args below meth c s₁ B hml hv
  obtain ⟨rfl, hC⟩ := hv
  have hx := B.exec
  have hb := B.bytes
  have hr := B.returns
  have hts := atoms_spec (ws := wsX6_check) B.pre
  have hown : s.vm.findClass RX6 = some m.cls := findClass_of_methodNamed B.named
  have hlk := B.notSynchronized
  have X : CallFix p m c cX6_check 6 s _ wsX6_check RX6 := ⟨hx, hb, hml, hown, hts⟩
  have Z := zz_enter hC
  generalize va_A (zg_W XL ad cA σ) sz = A at Z ⊢
  have hl := lv_entry ([.ref (ad 0), .int a1]) (n := 6) (Nat.le_of_ble_eq_true rfl)
  rw [lg_entry_eq]
  generalize (lg_sl ([.ref (ad 0), .int a1]) ++ List.replicate (6 - (lg_sl ([.ref (ad 0), .int a1])).length) Slot.unset).toArray = ls at hl ⊢
  have hl : lv_has ls 6 [(0, .ref (ad 0)), (1, .int a1)] := hl
  unfold f_X6_check at hf
  have b64_ : ∀ (k64_ : Nat) (x2 : Int32) (x3 : Int32) (x4 : Int32) (σ : zg_S), L_X6_check_64 a1 k64_ x2 x3 x4 σ = some (r0, σf) → ∀ (H : Heap) (locs : List Loc) (ls : Array Slot), zz_S D V A s (zg_W XL ad cA σ) (zg_T XL cA) H locs → lv_has ls 6 [(0, .ref (ad 0)), (2, .int x2), (3, .int x3), (4, .int x4)] → W p l e (headSpec wsX6_check { frames := 6, cells := 0, slots := 0, locals := 137 }).room s m (List.toArray [.ref (ad 0), .int a1]) below meth c H locs 0 0 (MQ below (va_Qi (fun r (_ : Unit) => r = r0) (fun _ t => zz_B D A (zg_W XL ad cA σf) (zg_T XL cA) t) A) (List.toArray [.ref (ad 0), .int a1]) s 0 0 A) (F0 m 64 ls []) := by
    intro k64_
    induction k64_ with
    | zero =>
        intro x2 x3 x4 σ hf64_ H64_ locs64_ ls64_ Z64_ hl64_
        exact zNone hf64_
    | succ k64_ ih64_ =>
        intro x2 x3 x4 σ hf64_ H64_ locs64_ ls64_ Z64_ hl64_
        replace hf64_ : B_X6_check_64 a1 (L_X6_check_64 a1 k64_) x2 x3 x4 σ = some (r0, σf) := hf64_
        unfold B_X6_check_64 at hf64_
        have b113_ : ∀ (x5 : Int32) (σ : zg_S), B_X6_check_113 a1 x5 σ = some (r0, σf) → ∀ (H : Heap) (locs : List Loc) (ls : Array Slot), zz_S D V A s (zg_W XL ad cA σ) (zg_T XL cA) H locs → lv_has ls 6 [(5, .int x5)] → W p l e (headSpec wsX6_check { frames := 6, cells := 0, slots := 0, locals := 137 }).room s m (List.toArray [.ref (ad 0), .int a1]) below meth c H locs 0 0 (MQ below (va_Qi (fun r (_ : Unit) => r = r0) (fun _ t => zz_B D A (zg_W XL ad cA σf) (zg_T XL cA) t) A) (List.toArray [.ref (ad 0), .int a1]) s 0 0 A) (F0 m 113 ls []) := by
          intro x5 σ hf113_ H113_ locs113_ ls113_ Z113_ hl113_
          unfold B_X6_check_113 at hf113_
          refine lv_iconst (v := 1) hx hb dX6_check_113 (by decide) ?_
          refine lv_iload hx hb dX6_check_114 (lv_at hl113_ 0 rfl) ?_
          refine lv_iadd hx hb dX6_check_116 ?_
          exact zy_iret X hr hlk Z113_ (zEnd hf113_) dX6_check_117
        have b145_ : ∀ (x5 : Int32) (σ : zg_S), B_X6_check_145 a1 x5 σ = some (r0, σf) → ∀ (H : Heap) (locs : List Loc) (ls : Array Slot), zz_S D V A s (zg_W XL ad cA σ) (zg_T XL cA) H locs → lv_has ls 6 [(5, .int x5)] → W p l e (headSpec wsX6_check { frames := 6, cells := 0, slots := 0, locals := 137 }).room s m (List.toArray [.ref (ad 0), .int a1]) below meth c H locs 0 0 (MQ below (va_Qi (fun r (_ : Unit) => r = r0) (fun _ t => zz_B D A (zg_W XL ad cA σf) (zg_T XL cA) t) A) (List.toArray [.ref (ad 0), .int a1]) s 0 0 A) (F0 m 145 ls []) := by
          intro x5 σ hf145_ H145_ locs145_ ls145_ Z145_ hl145_
          unfold B_X6_check_145 at hf145_
          refine lv_iconst (v := 2) hx hb dX6_check_145 (by decide) ?_
          refine lv_iload hx hb dX6_check_146 (lv_at hl145_ 0 rfl) ?_
          refine lv_iadd hx hb dX6_check_148 ?_
          exact zy_iret X hr hlk Z145_ (zEnd hf145_) dX6_check_149
        refine lv_iload hx hb dX6_check_64 (lv_at hl64_ 3 rfl) ?_
        refine lv_iload_n hx hb dX6_check_66 rfl (lv_at hl64_ 2 rfl) ?_
        refine lv_icmp_ge (tgt := 156) hx hb dX6_check_67 (by decide) (fun b1 => ?_) (fun b1 => ?_)
        · have hf2 := zYes hf64_ b1
          clear hf64_
          refine lv_iconst (v := 2) hx hb dX6_check_156 (by decide) ?_
          refine lv_iload_n hx hb dX6_check_157 rfl (lv_at hl64_ 2 rfl) ?_
          refine lv_imul hx hb dX6_check_158 ?_
          refine lv_istore (lv' := [(4, .int (2 * x3)), (0, .ref (ad 0)), (2, .int x2), (3, .int x3)]) hx hb dX6_check_159 hl64_ (by decide) rfl (fun ls4 hl3 => ?_)
          clear hl64_
          refine lv_iload_n hx hb dX6_check_161 rfl (lv_at hl3 2 rfl) ?_
          refine lv_iload hx hb dX6_check_162 (lv_at hl3 0 rfl) ?_
          refine lv_icmp_le (tgt := 174) hx hb dX6_check_164 (by decide) (fun b5 => ?_) (fun b5 => ?_)
          · have hf6 := zYes hf2 b5
            clear hf2
            refine lv_iconst (v := 0) hx hb dX6_check_174 (by decide) ?_
            exact zy_iret X hr hlk Z64_ (zEnd hf6) dX6_check_175
          · have hf7 := zNot hf2 b5
            clear hf2
            refine lv_iconst (v := 1) hx hb dX6_check_167 (by decide) ?_
            refine lv_iload hx hb dX6_check_168 (lv_at hl3 0 rfl) ?_
            refine lv_iadd hx hb dX6_check_170 ?_
            refine lv_goto (tgt := 175) hx hb dX6_check_171 (by decide) ?_
            exact zy_iret X hr hlk Z64_ (zEnd hf7) dX6_check_175
        · have hf8 := zNot hf64_ b1
          clear hf64_
          refine lv_aload_n hx hb dX6_check_70 rfl (lv_at hl64_ 0 rfl) ?_
          refine zy_get (v := .ref (ad 165)) X Z64_ xL_ok xk_0 rfl rfl (fun w h => List.mem_cons_of_mem _ (List.mem_append_left _ (List.mem_append_left _ (List.mem_append_left _ (List.mem_append_right _ h))))) 2 rfl (zz_m 5 rfl) rfl dX6_check_71 ?_
          refine lv_aload_n hx hb dX6_check_74 rfl (lv_at hl64_ 0 rfl) ?_
          refine zy_get (v := .ref (ad 165)) X Z64_ xL_ok xk_0 rfl rfl (fun w h => List.mem_cons_of_mem _ (List.mem_append_left _ (List.mem_append_left _ (List.mem_append_left _ (List.mem_append_right _ h))))) 2 rfl (zz_m 5 rfl) rfl dX6_check_75 ?_
          obtain ⟨r9, σ10, hc11, hf12⟩ := zBd hf8
          clear hf8
          refine zy_ci (r0 := r9) (WS1 := zg_W XL ad cA σ10) (TYS1 := zg_T XL cA) Z64_ (va_runV (As := []) (rest := [.ref (ad 165)]) X (c_X0_hauling l D V ad cA 165 xk_165 σ r9 σ10 hc11 H64_.size) (cwV 0 hts gX6_check_X0_hauling rfl rfl rfl ⟨rfl, zh_X0_hauling⟩ ⟨Nat.le_of_ble_eq_true rfl, Nat.le_of_ble_eq_true rfl⟩) (zy_pV (ci := 0) Z64_ xL_ok xk_165 rfl rfl) rfl rfl hl64_.1 rfl (lv_room (Nat.le_of_ble_eq_true rfl)) dX6_check_78 ⟨Nat.le_of_ble_eq_true rfl, Nat.le_of_ble_eq_true rfl⟩) (fun H13 lo14 Z15 => ?_)
          clear Z64_ hc11
          obtain ⟨r16, σ17, hc18, hf19⟩ := zBd hf12
          clear hf12
          refine zy_cv (WS1 := zg_W XL ad cA σ17) (TYS1 := zg_T XL cA) Z15 (va_runV (As := [.int r9]) (rest := []) X (c_X0_passHour l D V ad cA 165 r9 xk_165 σ10 r16 σ17 hc18 H13.size) (cwV 1 hts gX6_check_X0_passHour rfl rfl rfl ⟨rfl, zh_X0_passHour⟩ ⟨Nat.le_of_ble_eq_true rfl, Nat.le_of_ble_eq_true rfl⟩) (zy_pV (ci := 0) Z15 xL_ok xk_165 rfl rfl) rfl rfl hl64_.1 rfl (lv_room (Nat.le_of_ble_eq_true rfl)) dX6_check_81 ⟨Nat.le_of_ble_eq_true rfl, Nat.le_of_ble_eq_true rfl⟩) (fun H20 lo21 Z22 => ?_)
          clear Z15 hc18
          refine lv_iconst (v := 2) hx hb dX6_check_84 (by decide) ?_
          refine lv_iload hx hb dX6_check_85 (lv_at hl64_ 3 rfl) ?_
          refine lv_imul hx hb dX6_check_87 ?_
          refine lv_istore (lv' := [(5, .int (2 * x4)), (0, .ref (ad 0)), (2, .int x2), (3, .int x3), (4, .int x4)]) hx hb dX6_check_88 hl64_ (by decide) rfl (fun ls24 hl23 => ?_)
          clear hl64_
          refine lv_iload hx hb dX6_check_90 (lv_at hl23 0 rfl) ?_
          refine lv_iload_n hx hb dX6_check_92 rfl (lv_at hl23 2 rfl) ?_
          refine lv_icmp_ge (tgt := 113) hx hb dX6_check_93 (by decide) (fun b25 => ?_) (fun b25 => ?_)
          · have hf26 := zYes hf19 b25
            clear hf19
            exact b113_ (2 * x4) σ17 hf26 _ _ _ Z22 (lv_sub hl23 [0] rfl)
          · have hf27 := zNot hf19 b25
            clear hf19
            refine lv_aload_n hx hb dX6_check_96 rfl (lv_at hl23 1 rfl) ?_
            refine zy_get (v := .ref (ad 5)) X Z22 xL_ok xk_0 rfl rfl (fun w h => List.mem_cons_of_mem _ (List.mem_append_left _ (List.mem_append_left _ (List.mem_append_left _ (List.mem_append_right _ h))))) 9 rfl (zz_m 12 rfl) rfl dX6_check_97 ?_
            refine lv_iload hx hb dX6_check_100 (lv_at hl23 0 rfl) ?_
            obtain ⟨⟨i28, j29⟩, hf30⟩ := zG hf27
            clear hf27
            refine zy_ild X Z22 xL_ok xk_5 xl_5 i28 dX6_check_102 ?_
            refine lv_aload_n hx hb dX6_check_103 rfl (lv_at hl23 1 rfl) ?_
            refine zy_get (v := .ref (ad 165)) X Z22 xL_ok xk_0 rfl rfl (fun w h => List.mem_cons_of_mem _ (List.mem_append_left _ (List.mem_append_left _ (List.mem_append_left _ (List.mem_append_right _ h))))) 2 rfl (zz_m 5 rfl) rfl dX6_check_104 ?_
            refine zy_get (v := .int (σ17 165 11)) X Z22 xL_ok xk_165 rfl rfl (fun w h => List.mem_cons_of_mem _ (List.mem_append_left _ (List.mem_append_left _ (List.mem_append_right _ h)))) 11 rfl (zz_m 13 rfl) rfl dX6_check_107 ?_
            refine lv_icmp_eq (tgt := 118) hx hb dX6_check_110 (by decide) (fun b31 => ?_) (fun b31 => ?_)
            · have hf32 := zYes hf30 b31
              clear hf30
              refine lv_iload hx hb dX6_check_118 (lv_at hl23 0 rfl) ?_
              refine lv_iconst (v := 1) hx hb dX6_check_120 (by decide) ?_
              refine lv_iadd hx hb dX6_check_121 ?_
              refine lv_iload_n hx hb dX6_check_122 rfl (lv_at hl23 2 rfl) ?_
              refine lv_icmp_ge (tgt := 145) hx hb dX6_check_123 (by decide) (fun b33 => ?_) (fun b33 => ?_)
              · have hf34 := zYes hf32 b33
                clear hf32
                exact b145_ (2 * x4) σ17 hf34 _ _ _ Z22 (lv_sub hl23 [0] rfl)
              · have hf35 := zNot hf32 b33
                clear hf32
                refine lv_aload_n hx hb dX6_check_126 rfl (lv_at hl23 1 rfl) ?_
                refine zy_get (v := .ref (ad 5)) X Z22 xL_ok xk_0 rfl rfl (fun w h => List.mem_cons_of_mem _ (List.mem_append_left _ (List.mem_append_left _ (List.mem_append_left _ (List.mem_append_right _ h))))) 9 rfl (zz_m 12 rfl) rfl dX6_check_127 ?_
                refine lv_iload hx hb dX6_check_130 (lv_at hl23 0 rfl) ?_
                refine lv_iconst (v := 1) hx hb dX6_check_132 (by decide) ?_
                refine lv_iadd hx hb dX6_check_133 ?_
                obtain ⟨⟨i36, j37⟩, hf38⟩ := zG hf35
                clear hf35
                refine zy_ild X Z22 xL_ok xk_5 xl_5 i36 dX6_check_134 ?_
                refine lv_aload_n hx hb dX6_check_135 rfl (lv_at hl23 1 rfl) ?_
                refine zy_get (v := .ref (ad 165)) X Z22 xL_ok xk_0 rfl rfl (fun w h => List.mem_cons_of_mem _ (List.mem_append_left _ (List.mem_append_left _ (List.mem_append_left _ (List.mem_append_right _ h))))) 2 rfl (zz_m 5 rfl) rfl dX6_check_136 ?_
                refine zy_get (v := .int (σ17 165 6)) X Z22 xL_ok xk_165 rfl rfl (fun w h => List.mem_cons_of_mem _ (List.mem_append_left _ (List.mem_append_left _ (List.mem_append_right _ h)))) 6 rfl (zz_m 14 rfl) rfl dX6_check_139 ?_
                refine lv_icmp_eq (tgt := 150) hx hb dX6_check_142 (by decide) (fun b39 => ?_) (fun b39 => ?_)
                · have hf40 := zYes hf38 b39
                  clear hf38
                  refine lv_iinc (v := (x4 + 1)) (lv' := [(4, .int (x4 + 1)), (5, .int (2 * x4)), (0, .ref (ad 0)), (2, .int x2), (3, .int x3)]) hx hb dX6_check_150 hl23 (k := 4) rfl rfl (by decide) rfl (fun ls42 hl41 => ?_)
                  clear hl23
                  refine lv_goto (tgt := 64) hx hb dX6_check_153 (by decide) ?_
                  exact ih64_ x2 x3 (x4 + 1) σ17 hf40 _ _ _ Z22 (lv_sub hl41 [2, 3, 4, 0] rfl)
                · have hf43 := zNot hf38 b39
                  clear hf38
                  exact b145_ (2 * x4) σ17 hf43 _ _ _ Z22 (lv_sub hl23 [0] rfl)
            · have hf44 := zNot hf30 b31
              clear hf30
              exact b113_ (2 * x4) σ17 hf44 _ _ _ Z22 (lv_sub hl23 [0] rfl)
  refine lv_aload_n hx hb dX6_check_0 rfl (lv_at hl 0 rfl) ?_
  refine zy_get (v := .int (σ 0 11)) X Z xL_ok xk_0 rfl rfl (fun w h => List.mem_cons_of_mem _ (List.mem_append_left _ (List.mem_append_left _ (List.mem_append_left _ (List.mem_append_right _ h))))) 11 rfl (zz_m 1 rfl) rfl dX6_check_1 ?_
  refine lv_istore_n (lv' := [(2, .int (σ 0 11)), (0, .ref (ad 0)), (1, .int a1)]) hx hb dX6_check_4 rfl hl (by decide) rfl (fun ls46 hl45 => ?_)
  clear hl
  refine lv_aload_n hx hb dX6_check_5 rfl (lv_at hl45 1 rfl) ?_
  refine lv_iconst (v := 0) hx hb dX6_check_6 (by decide) ?_
  obtain ⟨σ47, es48, hf49⟩ := zLet hf
  clear hf
  refine zy_put (v := 0) (σ' := σ47) X Z xL_ok xk_0 rfl rfl (fun w h => List.mem_cons_of_mem _ (List.mem_append_left _ (List.mem_append_left _ (List.mem_append_left _ (List.mem_append_right _ h))))) tyX6 tyX6_ok nmX6 11 rfl (zz_m 1 rfl) rfl rfl rfl (fun _ => rfl) (fun _ => rfl) es48 dX6_check_7 (fun H50 lo51 Z52 => ?_)
  clear Z es48
  refine lv_iload_n hx hb dX6_check_10 rfl (lv_at hl45 2 rfl) ?_
  refine lv_iconst (v := 1) hx hb dX6_check_11 (by decide) ?_
  refine lv_bipush (v := 30) hx hb dX6_check_12 (by decide) ?_
  obtain ⟨r53, σ54, hc55, hf56⟩ := zBd hf49
  clear hf49
  refine zy_ci (r0 := r53) (WS1 := zg_W XL ad cA σ54) (TYS1 := zg_T XL cA) Z52 (va_runS (As := [.int a1, .int 1, .int 30]) (rest := []) X (c_X6_within l D V ad cA a1 1 30 σ47 r53 σ54 hc55 H50.size) (va_cwS 3 hts gX6_check_X6_within rfl rfl rfl zh_X6_within ⟨Nat.le_of_ble_eq_true rfl, Nat.le_of_ble_eq_true rfl⟩) (zz_pS Z52) rfl rfl hl45.1 rfl (lv_room (Nat.le_of_ble_eq_true rfl)) dX6_check_14 ⟨Nat.le_of_ble_eq_true rfl, Nat.le_of_ble_eq_true rfl⟩) (fun H57 lo58 Z59 => ?_)
  clear Z52 hc55
  refine lv_if_ne (tgt := 23) hx hb dX6_check_17 (by decide) (fun b60 => ?_) (fun b60 => ?_)
  · have hf61 := zNot hf56 b60
    clear hf56
    refine lv_aload_n hx hb dX6_check_23 rfl (lv_at hl45 1 rfl) ?_
    refine zy_get (v := .int (σ54 0 12)) X Z59 xL_ok xk_0 rfl rfl (fun w h => List.mem_cons_of_mem _ (List.mem_append_left _ (List.mem_append_left _ (List.mem_append_left _ (List.mem_append_right _ h))))) 12 rfl (zz_m 3 rfl) rfl dX6_check_24 ?_
    refine lv_if_ne (tgt := 34) hx hb dX6_check_27 (by decide) (fun b62 => ?_) (fun b62 => ?_)
    · have hf63 := zNot hf61 b62
      clear hf61
      refine lv_aload_n hx hb dX6_check_34 rfl (lv_at hl45 1 rfl) ?_
      refine zy_get (v := .ref (ad 165)) X Z59 xL_ok xk_0 rfl rfl (fun w h => List.mem_cons_of_mem _ (List.mem_append_left _ (List.mem_append_left _ (List.mem_append_left _ (List.mem_append_right _ h))))) 2 rfl (zz_m 5 rfl) rfl dX6_check_35 ?_
      refine lv_aload_n hx hb dX6_check_38 rfl (lv_at hl45 1 rfl) ?_
      refine zy_get (v := .ref (ad 177)) X Z59 xL_ok xk_0 rfl rfl (fun w h => List.mem_cons_of_mem _ (List.mem_append_left _ (List.mem_append_left _ (List.mem_append_left _ (List.mem_append_right _ h))))) 3 rfl (zz_m 6 rfl) rfl dX6_check_39 ?_
      obtain ⟨r64, σ65, hc66, hf67⟩ := zBd hf63
      clear hf63
      refine zy_cv (WS1 := zg_W XL ad cA σ65) (TYS1 := zg_T XL cA) Z59 (va_runV (As := [.ref (ad 177)]) (rest := []) X (c_X0_takeOver l D V ad cA 165 177 xk_165 xk_177 σ54 r64 σ65 hc66 H57.size) (cwV 1 hts gX6_check_X0_takeOver rfl rfl rfl ⟨rfl, zh_X0_takeOver⟩ ⟨Nat.le_of_ble_eq_true rfl, Nat.le_of_ble_eq_true rfl⟩) (zy_pV (ci := 0) Z59 xL_ok xk_165 rfl rfl) rfl rfl hl45.1 rfl (lv_room (Nat.le_of_ble_eq_true rfl)) dX6_check_42 ⟨Nat.le_of_ble_eq_true rfl, Nat.le_of_ble_eq_true rfl⟩) (fun H68 lo69 Z70 => ?_)
      clear Z59 hc66
      refine lv_iload_n hx hb dX6_check_45 rfl (lv_at hl45 2 rfl) ?_
      refine lv_sipush (v := 9999) hx hb dX6_check_46 (by decide) ?_
      refine lv_aload_n hx hb dX6_check_49 rfl (lv_at hl45 1 rfl) ?_
      refine zy_get (v := .ref (ad 177)) X Z70 xL_ok xk_0 rfl rfl (fun w h => List.mem_cons_of_mem _ (List.mem_append_left _ (List.mem_append_left _ (List.mem_append_left _ (List.mem_append_right _ h))))) 3 rfl (zz_m 6 rfl) rfl dX6_check_50 ?_
      refine zy_get (v := .int (σ65 177 7)) X Z70 xL_ok xk_177 rfl rfl (fun w h => List.mem_cons_of_mem _ (List.mem_append_left _ (List.mem_append_left _ (List.mem_append_right _ h)))) 7 rfl (zz_m 7 rfl) rfl dX6_check_53 ?_
      refine lv_isub hx hb dX6_check_56 ?_
      refine va_mmin hx hb (by rw [hml]; exact hl45.1.symm) hown (hts _ (zz_m 8 rfl)) (hts _ (zz_m 9 rfl)) (hts _ (zz_m 10 rfl)) (hts _ (zz_m 11 rfl)) (Nat.le_of_ble_eq_true rfl) (Nat.le_of_ble_eq_true rfl) (Nat.le_of_ble_eq_true rfl) (Nat.le_of_ble_eq_true rfl) dX6_check_57 ?_
      obtain ⟨y71, ey72, hf73⟩ := zLet hf67
      clear hf67
      refine zz_v (v := y71) ey72.symm ?_
      clear ey72
      refine lv_istore_n (lv' := [(3, .int y71), (2, .int (σ 0 11)), (0, .ref (ad 0)), (1, .int a1)]) hx hb dX6_check_60 rfl hl45 (by decide) rfl (fun ls75 hl74 => ?_)
      clear hl45
      refine lv_iconst (v := 0) hx hb dX6_check_61 (by decide) ?_
      refine lv_istore (lv' := [(4, .int 0), (3, .int y71), (2, .int (σ 0 11)), (0, .ref (ad 0)), (1, .int a1)]) hx hb dX6_check_62 hl74 (by decide) rfl (fun ls77 hl76 => ?_)
      clear hl74
      exact b64_ zfu (σ 0 11) y71 0 σ65 hf73 _ _ _ Z70 (lv_sub hl76 [3, 2, 1, 0] rfl)
    · have hf78 := zYes hf61 b62
      clear hf61
      refine lv_ldcw (v := (-1000000002)) hx hb hown (hts _ (zz_m 4 rfl)) dX6_check_30 ?_
      exact zy_iret X hr hlk Z59 (zEnd hf78) dX6_check_33
  · have hf79 := zYes hf56 b60
    clear hf56
    refine lv_ldc (v := (-1000000001)) hx hb hown (hts _ (zz_m 2 rfl)) dX6_check_20 ?_
    exact zy_iret X hr hlk Z59 (zEnd hf79) dX6_check_22
def f_X6_cloth (a1 : Int32) (σ : zg_S) : Option (Int32 × zg_S) := (if a1 = 0 then some (σ 153 6, σ) else (if a1 = 1 then some (σ 153 5, σ) else (if a1 = 2 then some (σ 153 8, σ) else (if a1 = 3 then some (σ 153 9, σ) else (if a1 = 4 then zbd (f_X0_heat 153 σ) (fun (r15 : Int32) (σ16 : zg_S) => some (r15, σ16)) else (if a1 = 5 then zbd (f_X0_firstShaded 153 σ) (fun (r25 : Int32) (σ26 : zg_S) => some (r25, σ26)) else (if a1 = 6 then zbd (f_X0_shadedSet 153 σ) (fun (r35 : Int32) (σ36 : zg_S) => some (r35, σ36)) else some ((-1000000001), σ))))))))
set_option maxHeartbeats 4000000 in
set_option maxRecDepth 100000 in
theorem c_X6_cloth (l : Launch) (D : va_G) (V : zz_V) (ad : Nat → Nat) (cA : Nat → ClassId) (a1 : Int32)  (σ : zg_S) (r0 : Int32) (σf : zg_S) (hf : f_X6_cloth a1 σ = some (r0, σf)) : zM_I l yX6_cloth wsX6_cloth 4 86 D V XL ad cA [.ref (ad 0), .int a1] σ r0 σf := by
  intro sz
  refine Met.ofW (cc := cX6_cloth) (maxL := 2) (ret := (some .int)) (by decide) rfl ?_
  intro p e s m args below meth c s₁ B hml hv
  obtain ⟨rfl, hC⟩ := hv
  have hx := B.exec
  have hb := B.bytes
  have hr := B.returns
  have hts := atoms_spec (ws := wsX6_cloth) B.pre
  have hown : s.vm.findClass RX6 = some m.cls := findClass_of_methodNamed B.named
  have hlk := B.notSynchronized
  have X : CallFix p m c cX6_cloth 2 s _ wsX6_cloth RX6 := ⟨hx, hb, hml, hown, hts⟩
  have Z := zz_enter hC
  generalize va_A (zg_W XL ad cA σ) sz = A at Z ⊢
  have hl := lv_entry ([.ref (ad 0), .int a1]) (n := 2) (Nat.le_of_ble_eq_true rfl)
  rw [lg_entry_eq]
  generalize (lg_sl ([.ref (ad 0), .int a1]) ++ List.replicate (2 - (lg_sl ([.ref (ad 0), .int a1])).length) Slot.unset).toArray = ls at hl ⊢
  have hl : lv_has ls 2 [(0, .ref (ad 0)), (1, .int a1)] := hl
  unfold f_X6_cloth at hf
  refine lv_iload_n hx hb dX6_cloth_0 rfl (lv_at hl 1 rfl) ?_
  by_cases w1 : a1 = 0
  · have hf2 := zYes hf w1
    clear hf
    refine zz_v w1 ?_
    refine lv_tableIn (x := 0) (off := 43) (tgt := 44) hx hb dX6_cloth_1 (by decide) (by decide) rfl (by decide) ?_
    refine lv_aload_n hx hb dX6_cloth_44 rfl (lv_at hl 0 rfl) ?_
    refine zy_get (v := .ref (ad 153)) X Z xL_ok xk_0 rfl rfl (fun w h => List.mem_cons_of_mem _ (List.mem_append_left _ (List.mem_append_left _ (List.mem_append_right _ h)))) 1 rfl (zz_m 1 rfl) rfl dX6_cloth_45 ?_
    refine zy_get (v := .int (σ 153 6)) X Z xL_ok xk_153 rfl rfl (fun w h => List.mem_cons_of_mem _ (List.mem_append_left _ (List.mem_append_right _ h))) 6 rfl (zz_m 2 rfl) rfl dX6_cloth_48 ?_
    exact zy_iret X hr hlk Z (zEnd hf2) dX6_cloth_51
  · have hf3 := zNot hf w1
    clear hf
    by_cases w4 : a1 = 1
    · have hf5 := zYes hf3 w4
      clear hf3
      refine zz_v w4 ?_
      refine lv_tableIn (x := 1) (off := 51) (tgt := 52) hx hb dX6_cloth_1 (by decide) (by decide) rfl (by decide) ?_
      refine lv_aload_n hx hb dX6_cloth_52 rfl (lv_at hl 0 rfl) ?_
      refine zy_get (v := .ref (ad 153)) X Z xL_ok xk_0 rfl rfl (fun w h => List.mem_cons_of_mem _ (List.mem_append_left _ (List.mem_append_left _ (List.mem_append_right _ h)))) 1 rfl (zz_m 1 rfl) rfl dX6_cloth_53 ?_
      refine zy_get (v := .int (σ 153 5)) X Z xL_ok xk_153 rfl rfl (fun w h => List.mem_cons_of_mem _ (List.mem_append_left _ (List.mem_append_right _ h))) 5 rfl (zz_m 3 rfl) rfl dX6_cloth_56 ?_
      exact zy_iret X hr hlk Z (zEnd hf5) dX6_cloth_59
    · have hf6 := zNot hf3 w4
      clear hf3
      by_cases w7 : a1 = 2
      · have hf8 := zYes hf6 w7
        clear hf6
        refine zz_v w7 ?_
        refine lv_tableIn (x := 2) (off := 59) (tgt := 60) hx hb dX6_cloth_1 (by decide) (by decide) rfl (by decide) ?_
        refine lv_aload_n hx hb dX6_cloth_60 rfl (lv_at hl 0 rfl) ?_
        refine zy_get (v := .ref (ad 153)) X Z xL_ok xk_0 rfl rfl (fun w h => List.mem_cons_of_mem _ (List.mem_append_left _ (List.mem_append_left _ (List.mem_append_right _ h)))) 1 rfl (zz_m 1 rfl) rfl dX6_cloth_61 ?_
        refine zy_get (v := .int (σ 153 8)) X Z xL_ok xk_153 rfl rfl (fun w h => List.mem_cons_of_mem _ (List.mem_append_left _ (List.mem_append_right _ h))) 8 rfl (zz_m 4 rfl) rfl dX6_cloth_64 ?_
        exact zy_iret X hr hlk Z (zEnd hf8) dX6_cloth_67
      · have hf9 := zNot hf6 w7
        clear hf6
        by_cases w10 : a1 = 3
        · have hf11 := zYes hf9 w10
          clear hf9
          refine zz_v w10 ?_
          refine lv_tableIn (x := 3) (off := 67) (tgt := 68) hx hb dX6_cloth_1 (by decide) (by decide) rfl (by decide) ?_
          refine lv_aload_n hx hb dX6_cloth_68 rfl (lv_at hl 0 rfl) ?_
          refine zy_get (v := .ref (ad 153)) X Z xL_ok xk_0 rfl rfl (fun w h => List.mem_cons_of_mem _ (List.mem_append_left _ (List.mem_append_left _ (List.mem_append_right _ h)))) 1 rfl (zz_m 1 rfl) rfl dX6_cloth_69 ?_
          refine zy_get (v := .int (σ 153 9)) X Z xL_ok xk_153 rfl rfl (fun w h => List.mem_cons_of_mem _ (List.mem_append_left _ (List.mem_append_right _ h))) 9 rfl (zz_m 5 rfl) rfl dX6_cloth_72 ?_
          exact zy_iret X hr hlk Z (zEnd hf11) dX6_cloth_75
        · have hf12 := zNot hf9 w10
          clear hf9
          by_cases w13 : a1 = 4
          · have hf14 := zYes hf12 w13
            clear hf12
            refine zz_v w13 ?_
            refine lv_tableIn (x := 4) (off := 75) (tgt := 76) hx hb dX6_cloth_1 (by decide) (by decide) rfl (by decide) ?_
            refine lv_aload_n hx hb dX6_cloth_76 rfl (lv_at hl 0 rfl) ?_
            refine zy_get (v := .ref (ad 153)) X Z xL_ok xk_0 rfl rfl (fun w h => List.mem_cons_of_mem _ (List.mem_append_left _ (List.mem_append_left _ (List.mem_append_right _ h)))) 1 rfl (zz_m 1 rfl) rfl dX6_cloth_77 ?_
            obtain ⟨r15, σ16, hc17, hf18⟩ := zBd hf14
            clear hf14
            refine zy_ci (r0 := r15) (WS1 := zg_W XL ad cA σ16) (TYS1 := zg_T XL cA) Z (va_runV (As := []) (rest := []) X (c_X0_heat l D V ad cA 153 xk_153 σ r15 σ16 hc17 s.heap.size) (cwV 0 hts gX6_cloth_X0_heat rfl rfl rfl ⟨rfl, zh_X0_heat⟩ ⟨Nat.le_of_ble_eq_true rfl, Nat.le_of_ble_eq_true rfl⟩) (zy_pV (ci := 0) Z xL_ok xk_153 rfl rfl) rfl rfl hl.1 rfl (lv_room (Nat.le_of_ble_eq_true rfl)) dX6_cloth_80 ⟨Nat.le_of_ble_eq_true rfl, Nat.le_of_ble_eq_true rfl⟩) (fun H19 lo20 Z21 => ?_)
            clear Z hc17
            exact zy_iret X hr hlk Z21 (zEnd hf18) dX6_cloth_83
          · have hf22 := zNot hf12 w13
            clear hf12
            by_cases w23 : a1 = 5
            · have hf24 := zYes hf22 w23
              clear hf22
              refine zz_v w23 ?_
              refine lv_tableIn (x := 5) (off := 83) (tgt := 84) hx hb dX6_cloth_1 (by decide) (by decide) rfl (by decide) ?_
              refine lv_aload_n hx hb dX6_cloth_84 rfl (lv_at hl 0 rfl) ?_
              refine zy_get (v := .ref (ad 153)) X Z xL_ok xk_0 rfl rfl (fun w h => List.mem_cons_of_mem _ (List.mem_append_left _ (List.mem_append_left _ (List.mem_append_right _ h)))) 1 rfl (zz_m 1 rfl) rfl dX6_cloth_85 ?_
              obtain ⟨r25, σ26, hc27, hf28⟩ := zBd hf24
              clear hf24
              refine zy_ci (r0 := r25) (WS1 := zg_W XL ad cA σ26) (TYS1 := zg_T XL cA) Z (va_runV (As := []) (rest := []) X (c_X0_firstShaded l D V ad cA 153 xk_153 σ r25 σ26 hc27 s.heap.size) (cwV 0 hts gX6_cloth_X0_firstShaded rfl rfl rfl ⟨rfl, zh_X0_firstShaded⟩ ⟨Nat.le_of_ble_eq_true rfl, Nat.le_of_ble_eq_true rfl⟩) (zy_pV (ci := 0) Z xL_ok xk_153 rfl rfl) rfl rfl hl.1 rfl (lv_room (Nat.le_of_ble_eq_true rfl)) dX6_cloth_88 ⟨Nat.le_of_ble_eq_true rfl, Nat.le_of_ble_eq_true rfl⟩) (fun H29 lo30 Z31 => ?_)
              clear Z hc27
              exact zy_iret X hr hlk Z31 (zEnd hf28) dX6_cloth_91
            · have hf32 := zNot hf22 w23
              clear hf22
              by_cases w33 : a1 = 6
              · have hf34 := zYes hf32 w33
                clear hf32
                refine zz_v w33 ?_
                refine lv_tableIn (x := 6) (off := 91) (tgt := 92) hx hb dX6_cloth_1 (by decide) (by decide) rfl (by decide) ?_
                refine lv_aload_n hx hb dX6_cloth_92 rfl (lv_at hl 0 rfl) ?_
                refine zy_get (v := .ref (ad 153)) X Z xL_ok xk_0 rfl rfl (fun w h => List.mem_cons_of_mem _ (List.mem_append_left _ (List.mem_append_left _ (List.mem_append_right _ h)))) 1 rfl (zz_m 1 rfl) rfl dX6_cloth_93 ?_
                obtain ⟨r35, σ36, hc37, hf38⟩ := zBd hf34
                clear hf34
                refine zy_ci (r0 := r35) (WS1 := zg_W XL ad cA σ36) (TYS1 := zg_T XL cA) Z (va_runV (As := []) (rest := []) X (c_X0_shadedSet l D V ad cA 153 xk_153 σ r35 σ36 hc37 s.heap.size) (cwV 0 hts gX6_cloth_X0_shadedSet rfl rfl rfl ⟨rfl, zh_X0_shadedSet⟩ ⟨Nat.le_of_ble_eq_true rfl, Nat.le_of_ble_eq_true rfl⟩) (zy_pV (ci := 0) Z xL_ok xk_153 rfl rfl) rfl rfl hl.1 rfl (lv_room (Nat.le_of_ble_eq_true rfl)) dX6_cloth_96 ⟨Nat.le_of_ble_eq_true rfl, Nat.le_of_ble_eq_true rfl⟩) (fun H39 lo40 Z41 => ?_)
                clear Z hc37
                exact zy_iret X hr hlk Z41 (zEnd hf38) dX6_cloth_99
              · have hf42 := zNot hf32 w33
                clear hf32
                have n43 := zNe (k := 0) (y := 0) (by decide) w1
                have n44 := zNe (k := 1) (y := 1) (by decide) w4
                have n45 := zNe (k := 2) (y := 2) (by decide) w7
                have n46 := zNe (k := 3) (y := 3) (by decide) w10
                have n47 := zNe (k := 4) (y := 4) (by decide) w13
                have n48 := zNe (k := 5) (y := 5) (by decide) w23
                have n49 := zNe (k := 6) (y := 6) (by decide) w33
                refine lv_tableOut (tgt := 100) hx hb dX6_cloth_1 (by omega) (by decide) ?_
                refine lv_ldc (v := (-1000000001)) hx hb hown (hts _ (zz_m 6 rfl)) dX6_cloth_100 ?_
                exact zy_iret X hr hlk Z (zEnd hf42) dX6_cloth_102
def f_X6_isSheet (a0 : Int32) (σ : zg_S) : Option (Int32 × zg_S) := zbd (f_X6_within a0 0 3 σ) (fun (r1 : Int32) (σ2 : zg_S) => (if r1 = 0 ∨ r1 = 1 then some (r1, σ2) else none))
set_option maxHeartbeats 4000000 in
set_option maxRecDepth 100000 in
theorem c_X6_isSheet (l : Launch) (D : va_G) (V : zz_V) (ad : Nat → Nat) (cA : Nat → ClassId) (a0 : Int32)  (σ : zg_S) (r0 : Int32) (σf : zg_S) (hf : f_X6_isSheet a0 σ = some (r0, σf)) : zM_I l yX6_isSheet wsX6_isSheet 1 22 D V XL ad cA [.int a0] σ r0 σf := by
  intro sz
  refine Met.ofW (cc := cX6_isSheet) (maxL := 1) (ret := (some .boolean)) (by decide) rfl ?_
  intro p e s m args below meth c s₁ B hml hv
  obtain ⟨rfl, hC⟩ := hv
  have hx := B.exec
  have hb := B.bytes
  have hr := B.returns
  have hts := atoms_spec (ws := wsX6_isSheet) B.pre
  have hown : s.vm.findClass RX6 = some m.cls := findClass_of_methodNamed B.named
  have hlk := B.notSynchronized
  have X : CallFix p m c cX6_isSheet 1 s _ wsX6_isSheet RX6 := ⟨hx, hb, hml, hown, hts⟩
  have Z := zz_enter hC
  generalize va_A (zg_W XL ad cA σ) sz = A at Z ⊢
  have hl := lv_entry ([.int a0]) (n := 1) (Nat.le_of_ble_eq_true rfl)
  rw [lg_entry_eq]
  generalize (lg_sl ([.int a0]) ++ List.replicate (1 - (lg_sl ([.int a0])).length) Slot.unset).toArray = ls at hl ⊢
  have hl : lv_has ls 1 [(0, .int a0)] := hl
  unfold f_X6_isSheet at hf
  refine lv_iload_n hx hb dX6_isSheet_0 rfl (lv_at hl 0 rfl) ?_
  refine lv_iconst (v := 0) hx hb dX6_isSheet_1 (by decide) ?_
  refine lv_iconst (v := 3) hx hb dX6_isSheet_2 (by decide) ?_
  obtain ⟨r1, σ2, hc3, hf4⟩ := zBd hf
  clear hf
  refine zy_ci (r0 := r1) (WS1 := zg_W XL ad cA σ2) (TYS1 := zg_T XL cA) Z (va_runS (As := [.int a0, .int 0, .int 3]) (rest := []) X (c_X6_within l D V ad cA a0 0 3 σ r1 σ2 hc3 s.heap.size) (va_cwS 3 hts gX6_isSheet_X6_within rfl rfl rfl zh_X6_within ⟨Nat.le_of_ble_eq_true rfl, Nat.le_of_ble_eq_true rfl⟩) (zz_pS Z) rfl rfl hl.1 rfl (lv_room (Nat.le_of_ble_eq_true rfl)) dX6_isSheet_3 ⟨Nat.le_of_ble_eq_true rfl, Nat.le_of_ble_eq_true rfl⟩) (fun H5 lo6 Z7 => ?_)
  clear Z hc3
  obtain ⟨z9, hf8⟩ := zC hf4
  exact zy_zret X hr hlk Z7 z9 (zEnd hf8) dX6_isSheet_6
def f_X6_copy (a1 : Int32) (a2 : Int32) (a3 : Int32) (a4 : Int32) (a5 : Int32) (σ : zg_S) : Option (Int32 × zg_S) := zbd (f_X6_isSheet a1 σ) (fun (r1 : Int32) (σ2 : zg_S) => (if r1 = 0 then some ((-1000000001), σ2) else zbd (f_X6_isSheet a3 σ2) (fun (r11 : Int32) (σ12 : zg_S) => (if r11 = 0 then some ((-1000000001), σ12) else (if zin a1 4 = true then (if zin a3 4 = true then zbd (f_X2_isMissing (53 + 2 * (Int32.toNatClampNeg a1)) σ12) (fun (r30 : Int32) (σ31 : zg_S) => (if r30 = 0 then zbd (f_X2_isMissing (53 + 2 * (Int32.toNatClampNeg a3)) σ31) (fun (r40 : Int32) (σ41 : zg_S) => (if r40 = 0 then (if (σ41 (53 + 2 * (Int32.toNatClampNeg a1)) 0) = (σ41 (53 + 2 * (Int32.toNatClampNeg a3)) 0) then zbd (f_X2_hasPlaces (53 + 2 * (Int32.toNatClampNeg a1)) a2 a5 σ41) (fun (r51 : Int32) (σ52 : zg_S) => (if r51 = 0 then some ((-1000000013), σ52) else zbd (f_X2_hasPlaces (53 + 2 * (Int32.toNatClampNeg a3)) a4 a5 σ52) (fun (r61 : Int32) (σ62 : zg_S) => (if r61 = 0 then some ((-1000000013), σ62) else (if (¬ (a2 : Int32) < 0 ∧ ¬ (a4 : Int32) < 0 ∧ ¬ (a5 : Int32) < 0 ∧ Int32.toNatClampNeg a2 + Int32.toNatClampNeg a5 ≤ 24 ∧ Int32.toNatClampNeg a4 + Int32.toNatClampNeg a5 ≤ 24) then zlet (zg_row σ62 ((53 + 2 * (Int32.toNatClampNeg a3)) + 1) (va_cpy (σ62 ((53 + 2 * (Int32.toNatClampNeg a1)) + 1)) (σ62 ((53 + 2 * (Int32.toNatClampNeg a3)) + 1)) (Int32.toNatClampNeg a2) (Int32.toNatClampNeg a4) (Int32.toNatClampNeg a5))) (fun (σ76 : zg_S) => some (a5, σ76)) else none))))) else some ((-1000000012), σ41)) else some ((-1000000011), σ41))) else some ((-1000000011), σ31))) else none) else none)))))
set_option maxHeartbeats 4000000 in
set_option maxRecDepth 100000 in
theorem c_X6_copy (l : Launch) (D : va_G) (V : zz_V) (ad : Nat → Nat) (cA : Nat → ClassId) (a1 : Int32) (a2 : Int32) (a3 : Int32) (a4 : Int32) (a5 : Int32)  (σ : zg_S) (r0 : Int32) (σf : zg_S) (hf : f_X6_copy a1 a2 a3 a4 a5 σ = some (r0, σf)) : zM_I l yX6_copy wsX6_copy 2 60 D V XL ad cA [.ref (ad 0), .int a1, .int a2, .int a3, .int a4, .int a5] σ r0 σf := by
  intro sz
  refine Met.ofW (cc := cX6_copy) (maxL := 8) (ret := (some .int)) (by decide) rfl ?_
  intro p e s m args below meth c s₁ B hml hv
  obtain ⟨rfl, hC⟩ := hv
  have hx := B.exec
  have hb := B.bytes
  have hr := B.returns
  have hts := atoms_spec (ws := wsX6_copy) B.pre
  have hown : s.vm.findClass RX6 = some m.cls := findClass_of_methodNamed B.named
  have hlk := B.notSynchronized
  have X : CallFix p m c cX6_copy 8 s _ wsX6_copy RX6 := ⟨hx, hb, hml, hown, hts⟩
  have Z := zz_enter hC
  generalize va_A (zg_W XL ad cA σ) sz = A at Z ⊢
  have hl := lv_entry ([.ref (ad 0), .int a1, .int a2, .int a3, .int a4, .int a5]) (n := 8) (Nat.le_of_ble_eq_true rfl)
  rw [lg_entry_eq]
  generalize (lg_sl ([.ref (ad 0), .int a1, .int a2, .int a3, .int a4, .int a5]) ++ List.replicate (8 - (lg_sl ([.ref (ad 0), .int a1, .int a2, .int a3, .int a4, .int a5])).length) Slot.unset).toArray = ls at hl ⊢
  have hl : lv_has ls 8 [(0, .ref (ad 0)), (1, .int a1), (2, .int a2), (3, .int a3), (4, .int a4), (5, .int a5)] := hl
  unfold f_X6_copy at hf
  refine lv_iload_n hx hb dX6_copy_0 rfl (lv_at hl 1 rfl) ?_
  obtain ⟨r1, σ2, hc3, hf4⟩ := zBd hf
  clear hf
  refine zy_ci (r0 := r1) (WS1 := zg_W XL ad cA σ2) (TYS1 := zg_T XL cA) Z (va_runS (As := [.int a1]) (rest := []) X (c_X6_isSheet l D V ad cA a1 σ r1 σ2 hc3 s.heap.size) (va_cwS 1 hts gX6_copy_X6_isSheet rfl rfl rfl zh_X6_isSheet ⟨Nat.le_of_ble_eq_true rfl, Nat.le_of_ble_eq_true rfl⟩) (zz_pS Z) rfl rfl hl.1 rfl (lv_room (Nat.le_of_ble_eq_true rfl)) dX6_copy_1 ⟨Nat.le_of_ble_eq_true rfl, Nat.le_of_ble_eq_true rfl⟩) (fun H5 lo6 Z7 => ?_)
  clear Z hc3
  refine lv_if_eq (tgt := 14) hx hb dX6_copy_4 (by decide) (fun b8 => ?_) (fun b8 => ?_)
  · have hf9 := zYes hf4 b8
    clear hf4
    refine lv_ldc (v := (-1000000001)) hx hb hown (hts _ (zz_m 1 rfl)) dX6_copy_14 ?_
    exact zy_iret X hr hlk Z7 (zEnd hf9) dX6_copy_16
  · have hf10 := zNot hf4 b8
    clear hf4
    refine lv_iload_n hx hb dX6_copy_7 rfl (lv_at hl 3 rfl) ?_
    obtain ⟨r11, σ12, hc13, hf14⟩ := zBd hf10
    clear hf10
    refine zy_ci (r0 := r11) (WS1 := zg_W XL ad cA σ12) (TYS1 := zg_T XL cA) Z7 (va_runS (As := [.int a3]) (rest := []) X (c_X6_isSheet l D V ad cA a3 σ2 r11 σ12 hc13 H5.size) (va_cwS 1 hts gX6_copy_X6_isSheet rfl rfl rfl zh_X6_isSheet ⟨Nat.le_of_ble_eq_true rfl, Nat.le_of_ble_eq_true rfl⟩) (zz_pS Z7) rfl rfl hl.1 rfl (lv_room (Nat.le_of_ble_eq_true rfl)) dX6_copy_8 ⟨Nat.le_of_ble_eq_true rfl, Nat.le_of_ble_eq_true rfl⟩) (fun H15 lo16 Z17 => ?_)
    clear Z7 hc13
    refine lv_if_ne (tgt := 17) hx hb dX6_copy_11 (by decide) (fun b18 => ?_) (fun b18 => ?_)
    · have hf19 := zNot hf14 b18
      clear hf14
      refine lv_aload_n hx hb dX6_copy_17 rfl (lv_at hl 0 rfl) ?_
      refine zy_get (v := .ref (ad 3)) X Z17 xL_ok xk_0 rfl rfl (fun w h => List.mem_cons_of_mem _ (List.mem_append_left _ (List.mem_append_right _ h))) 7 rfl (zz_m 2 rfl) rfl dX6_copy_18 ?_
      refine lv_iload_n hx hb dX6_copy_21 rfl (lv_at hl 1 rfl) ?_
      obtain ⟨⟨i20, j21⟩, hf22⟩ := zG hf19
      clear hf19
      refine zy_ald (v := (53 + 2 * (Int32.toNatClampNeg a1))) (C := RX2) X Z17 xL_ok xk_3 rfl rfl xl_3 rfl i20 rfl dX6_copy_22 ?_
      refine lv_astore (lv' := [(6, .ref (ad (53 + 2 * (Int32.toNatClampNeg a1)))), (0, .ref (ad 0)), (1, .int a1), (2, .int a2), (3, .int a3), (4, .int a4), (5, .int a5)]) hx hb dX6_copy_23 hl (by decide) rfl (fun ls24 hl23 => ?_)
      clear hl
      refine lv_aload_n hx hb dX6_copy_25 rfl (lv_at hl23 1 rfl) ?_
      refine zy_get (v := .ref (ad 3)) X Z17 xL_ok xk_0 rfl rfl (fun w h => List.mem_cons_of_mem _ (List.mem_append_left _ (List.mem_append_right _ h))) 7 rfl (zz_m 2 rfl) rfl dX6_copy_26 ?_
      refine lv_iload_n hx hb dX6_copy_29 rfl (lv_at hl23 4 rfl) ?_
      obtain ⟨⟨i25, j26⟩, hf27⟩ := zG hf22
      clear hf22
      refine zy_ald (v := (53 + 2 * (Int32.toNatClampNeg a3))) (C := RX2) X Z17 xL_ok xk_3 rfl rfl xl_3 rfl i25 rfl dX6_copy_30 ?_
      refine lv_astore (lv' := [(7, .ref (ad (53 + 2 * (Int32.toNatClampNeg a3)))), (6, .ref (ad (53 + 2 * (Int32.toNatClampNeg a1)))), (0, .ref (ad 0)), (1, .int a1), (2, .int a2), (3, .int a3), (4, .int a4), (5, .int a5)]) hx hb dX6_copy_31 hl23 (by decide) rfl (fun ls29 hl28 => ?_)
      clear hl23
      refine lv_aload hx hb dX6_copy_33 (lv_at hl28 1 rfl) ?_
      obtain ⟨r30, σ31, hc32, hf33⟩ := zBd hf27
      clear hf27
      refine zy_ci (r0 := r30) (WS1 := zg_W XL ad cA σ31) (TYS1 := zg_T XL cA) Z17 (va_runV (As := []) (rest := []) X (c_X2_isMissing l D V ad cA (53 + 2 * (Int32.toNatClampNeg a1)) (xH j21) σ12 r30 σ31 hc32 H15.size) (cwV 0 hts gX6_copy_X2_isMissing rfl rfl rfl ⟨rfl, zh_X2_isMissing⟩ ⟨Nat.le_of_ble_eq_true rfl, Nat.le_of_ble_eq_true rfl⟩) (zy_pV (ci := 2) Z17 xL_ok (xH j21) rfl rfl) rfl rfl hl28.1 rfl (lv_room (Nat.le_of_ble_eq_true rfl)) dX6_copy_35 ⟨Nat.le_of_ble_eq_true rfl, Nat.le_of_ble_eq_true rfl⟩) (fun H34 lo35 Z36 => ?_)
      clear Z17 hc32
      refine lv_if_ne (tgt := 49) hx hb dX6_copy_38 (by decide) (fun b37 => ?_) (fun b37 => ?_)
      · have hf38 := zNot hf33 b37
        clear hf33
        refine lv_ldc (v := (-1000000011)) hx hb hown (hts _ (zz_m 3 rfl)) dX6_copy_49 ?_
        exact zy_iret X hr hlk Z36 (zEnd hf38) dX6_copy_51
      · have hf39 := zYes hf33 b37
        clear hf33
        refine lv_aload hx hb dX6_copy_41 (lv_at hl28 0 rfl) ?_
        obtain ⟨r40, σ41, hc42, hf43⟩ := zBd hf39
        clear hf39
        refine zy_ci (r0 := r40) (WS1 := zg_W XL ad cA σ41) (TYS1 := zg_T XL cA) Z36 (va_runV (As := []) (rest := []) X (c_X2_isMissing l D V ad cA (53 + 2 * (Int32.toNatClampNeg a3)) (xH j26) σ31 r40 σ41 hc42 H34.size) (cwV 0 hts gX6_copy_X2_isMissing rfl rfl rfl ⟨rfl, zh_X2_isMissing⟩ ⟨Nat.le_of_ble_eq_true rfl, Nat.le_of_ble_eq_true rfl⟩) (zy_pV (ci := 2) Z36 xL_ok (xH j26) rfl rfl) rfl rfl hl28.1 rfl (lv_room (Nat.le_of_ble_eq_true rfl)) dX6_copy_43 ⟨Nat.le_of_ble_eq_true rfl, Nat.le_of_ble_eq_true rfl⟩) (fun H44 lo45 Z46 => ?_)
        clear Z36 hc42
        refine lv_if_eq (tgt := 52) hx hb dX6_copy_46 (by decide) (fun b47 => ?_) (fun b47 => ?_)
        · have hf48 := zYes hf43 b47
          clear hf43
          refine lv_aload hx hb dX6_copy_52 (lv_at hl28 1 rfl) ?_
          refine zy_get (v := .int (σ41 (53 + 2 * (Int32.toNatClampNeg a1)) 0)) X Z46 xL_ok (xH j21) rfl rfl (fun w h => List.mem_cons_of_mem _ (List.mem_append_right _ h)) 0 rfl (zz_m 4 rfl) rfl dX6_copy_54 ?_
          refine lv_aload hx hb dX6_copy_57 (lv_at hl28 0 rfl) ?_
          refine zy_get (v := .int (σ41 (53 + 2 * (Int32.toNatClampNeg a3)) 0)) X Z46 xL_ok (xH j26) rfl rfl (fun w h => List.mem_cons_of_mem _ (List.mem_append_right _ h)) 0 rfl (zz_m 4 rfl) rfl dX6_copy_59 ?_
          refine lv_icmp_eq (tgt := 68) hx hb dX6_copy_62 (by decide) (fun b49 => ?_) (fun b49 => ?_)
          · have hf50 := zYes hf48 b49
            clear hf48
            refine lv_aload hx hb dX6_copy_68 (lv_at hl28 1 rfl) ?_
            refine lv_iload_n hx hb dX6_copy_70 rfl (lv_at hl28 4 rfl) ?_
            refine lv_iload hx hb dX6_copy_71 (lv_at hl28 7 rfl) ?_
            obtain ⟨r51, σ52, hc53, hf54⟩ := zBd hf50
            clear hf50
            refine zy_ci (r0 := r51) (WS1 := zg_W XL ad cA σ52) (TYS1 := zg_T XL cA) Z46 (va_runV (As := [.int a2, .int a5]) (rest := []) X (c_X2_hasPlaces l D V ad cA (53 + 2 * (Int32.toNatClampNeg a1)) a2 a5 (xH j21) σ41 r51 σ52 hc53 H44.size) (cwV 2 hts gX6_copy_X2_hasPlaces rfl rfl rfl ⟨rfl, zh_X2_hasPlaces⟩ ⟨Nat.le_of_ble_eq_true rfl, Nat.le_of_ble_eq_true rfl⟩) (zy_pV (ci := 2) Z46 xL_ok (xH j21) rfl rfl) rfl rfl hl28.1 rfl (lv_room (Nat.le_of_ble_eq_true rfl)) dX6_copy_73 ⟨Nat.le_of_ble_eq_true rfl, Nat.le_of_ble_eq_true rfl⟩) (fun H55 lo56 Z57 => ?_)
            clear Z46 hc53
            refine lv_if_eq (tgt := 91) hx hb dX6_copy_76 (by decide) (fun b58 => ?_) (fun b58 => ?_)
            · have hf59 := zYes hf54 b58
              clear hf54
              refine lv_ldcw (v := (-1000000013)) hx hb hown (hts _ (zz_m 6 rfl)) dX6_copy_91 ?_
              exact zy_iret X hr hlk Z57 (zEnd hf59) dX6_copy_94
            · have hf60 := zNot hf54 b58
              clear hf54
              refine lv_aload hx hb dX6_copy_79 (lv_at hl28 0 rfl) ?_
              refine lv_iload hx hb dX6_copy_81 (lv_at hl28 6 rfl) ?_
              refine lv_iload hx hb dX6_copy_83 (lv_at hl28 7 rfl) ?_
              obtain ⟨r61, σ62, hc63, hf64⟩ := zBd hf60
              clear hf60
              refine zy_ci (r0 := r61) (WS1 := zg_W XL ad cA σ62) (TYS1 := zg_T XL cA) Z57 (va_runV (As := [.int a4, .int a5]) (rest := []) X (c_X2_hasPlaces l D V ad cA (53 + 2 * (Int32.toNatClampNeg a3)) a4 a5 (xH j26) σ52 r61 σ62 hc63 H55.size) (cwV 2 hts gX6_copy_X2_hasPlaces rfl rfl rfl ⟨rfl, zh_X2_hasPlaces⟩ ⟨Nat.le_of_ble_eq_true rfl, Nat.le_of_ble_eq_true rfl⟩) (zy_pV (ci := 2) Z57 xL_ok (xH j26) rfl rfl) rfl rfl hl28.1 rfl (lv_room (Nat.le_of_ble_eq_true rfl)) dX6_copy_85 ⟨Nat.le_of_ble_eq_true rfl, Nat.le_of_ble_eq_true rfl⟩) (fun H65 lo66 Z67 => ?_)
              clear Z57 hc63
              refine lv_if_ne (tgt := 95) hx hb dX6_copy_88 (by decide) (fun b68 => ?_) (fun b68 => ?_)
              · have hf69 := zNot hf64 b68
                clear hf64
                refine lv_aload hx hb dX6_copy_95 (lv_at hl28 1 rfl) ?_
                refine zy_get (v := .ref (ad ((53 + 2 * (Int32.toNatClampNeg a1)) + 1))) X Z67 xL_ok (xH j21) rfl rfl (fun w h => List.mem_cons_of_mem _ (List.mem_append_right _ h)) 2 rfl (zz_m 7 rfl) rfl dX6_copy_97 ?_
                refine lv_iload_n hx hb dX6_copy_100 rfl (lv_at hl28 4 rfl) ?_
                refine lv_aload hx hb dX6_copy_101 (lv_at hl28 0 rfl) ?_
                refine zy_get (v := .ref (ad ((53 + 2 * (Int32.toNatClampNeg a3)) + 1))) X Z67 xL_ok (xH j26) rfl rfl (fun w h => List.mem_cons_of_mem _ (List.mem_append_right _ h)) 2 rfl (zz_m 7 rfl) rfl dX6_copy_103 ?_
                refine lv_iload hx hb dX6_copy_106 (lv_at hl28 6 rfl) ?_
                refine lv_iload hx hb dX6_copy_108 (lv_at hl28 7 rfl) ?_
                obtain ⟨⟨z70, z71, z72, z73, z74⟩, hf75⟩ := zC hf69
                clear hf69
                obtain ⟨σ76, es77, hf78⟩ := zLet hf75
                clear hf75
                refine zy_cpy (σ' := σ76) X (by rw [hml]; exact hl28.1.symm) Z67 xL_ok (zz_m 8 rfl) (zz_m 9 rfl) (zz_m 10 rfl) (zz_m 11 rfl) (xH1 (xH j21)) (xH1l (xH j21)) (xH1 (xH j26)) (xH1l (xH j26)) z70 z71 z72 z73 z74 (Nat.le_of_ble_eq_true rfl) (Nat.le_of_ble_eq_true rfl) es77 dX6_copy_110 (fun H79 lo80 Z81 => ?_)
                clear Z67 es77
                refine lv_iload hx hb dX6_copy_113 (lv_at hl28 7 rfl) ?_
                exact zy_iret X hr hlk Z81 (zEnd hf78) dX6_copy_115
              · have hf82 := zYes hf64 b68
                clear hf64
                refine lv_ldcw (v := (-1000000013)) hx hb hown (hts _ (zz_m 6 rfl)) dX6_copy_91 ?_
                exact zy_iret X hr hlk Z67 (zEnd hf82) dX6_copy_94
          · have hf83 := zNot hf48 b49
            clear hf48
            refine lv_ldc (v := (-1000000012)) hx hb hown (hts _ (zz_m 5 rfl)) dX6_copy_65 ?_
            exact zy_iret X hr hlk Z46 (zEnd hf83) dX6_copy_67
        · have hf84 := zNot hf43 b47
          clear hf43
          refine lv_ldc (v := (-1000000011)) hx hb hown (hts _ (zz_m 3 rfl)) dX6_copy_49 ?_
          exact zy_iret X hr hlk Z46 (zEnd hf84) dX6_copy_51
    · have hf85 := zYes hf14 b18
      clear hf14
      refine lv_ldc (v := (-1000000001)) hx hb hown (hts _ (zz_m 1 rfl)) dX6_copy_14 ?_
      exact zy_iret X hr hlk Z17 (zEnd hf85) dX6_copy_16
def f_X6_count (a1 : Int32) (σ : zg_S) : Option (Int32 × zg_S) := (if a1 = 0 then some (σ 153 3, σ) else (if a1 = 1 then some (σ 153 7, σ) else (if a1 = 2 then zbd (f_X0_shadedSet 153 σ) (fun (r9 : Int32) (σ10 : zg_S) => zbd (f_J6_bitCount_0f7a4 r9 σ10) (fun (r16 : Int32) (σ17 : zg_S) => some (r16, σ17))) else (if a1 = 3 then some (σ 153 4, σ) else (if a1 = 4 then some (σ 0 11, σ) else (if a1 = 5 then some (σ 0 10, σ) else (if a1 = 6 then some (σ 153 13, σ) else some ((-1000000001), σ))))))))
set_option maxHeartbeats 4000000 in
set_option maxRecDepth 100000 in
theorem c_X6_count (l : Launch) (D : va_G) (V : zz_V) (ad : Nat → Nat) (cA : Nat → ClassId) (a1 : Int32)  (σ : zg_S) (r0 : Int32) (σf : zg_S) (hf : f_X6_count a1 σ = some (r0, σf)) : zM_I l yX6_count wsX6_count 4 86 D V XL ad cA [.ref (ad 0), .int a1] σ r0 σf := by
  intro sz
  refine Met.ofW (cc := cX6_count) (maxL := 2) (ret := (some .int)) (by decide) rfl ?_
  intro p e s m args below meth c s₁ B hml hv
  obtain ⟨rfl, hC⟩ := hv
  have hx := B.exec
  have hb := B.bytes
  have hr := B.returns
  have hts := atoms_spec (ws := wsX6_count) B.pre
  have hown : s.vm.findClass RX6 = some m.cls := findClass_of_methodNamed B.named
  have hlk := B.notSynchronized
  have X : CallFix p m c cX6_count 2 s _ wsX6_count RX6 := ⟨hx, hb, hml, hown, hts⟩
  have Z := zz_enter hC
  generalize va_A (zg_W XL ad cA σ) sz = A at Z ⊢
  have hl := lv_entry ([.ref (ad 0), .int a1]) (n := 2) (Nat.le_of_ble_eq_true rfl)
  rw [lg_entry_eq]
  generalize (lg_sl ([.ref (ad 0), .int a1]) ++ List.replicate (2 - (lg_sl ([.ref (ad 0), .int a1])).length) Slot.unset).toArray = ls at hl ⊢
  have hl : lv_has ls 2 [(0, .ref (ad 0)), (1, .int a1)] := hl
  unfold f_X6_count at hf
  refine lv_iload_n hx hb dX6_count_0 rfl (lv_at hl 1 rfl) ?_
  by_cases w1 : a1 = 0
  · have hf2 := zYes hf w1
    clear hf
    refine zz_v w1 ?_
    refine lv_tableIn (x := 0) (off := 43) (tgt := 44) hx hb dX6_count_1 (by decide) (by decide) rfl (by decide) ?_
    refine lv_aload_n hx hb dX6_count_44 rfl (lv_at hl 0 rfl) ?_
    refine zy_get (v := .ref (ad 153)) X Z xL_ok xk_0 rfl rfl (fun w h => List.mem_cons_of_mem _ (List.mem_append_left _ (List.mem_append_left _ (List.mem_append_right _ h)))) 1 rfl (zz_m 1 rfl) rfl dX6_count_45 ?_
    refine zy_get (v := .int (σ 153 3)) X Z xL_ok xk_153 rfl rfl (fun w h => List.mem_cons_of_mem _ (List.mem_append_left _ (List.mem_append_right _ h))) 3 rfl (zz_m 2 rfl) rfl dX6_count_48 ?_
    exact zy_iret X hr hlk Z (zEnd hf2) dX6_count_51
  · have hf3 := zNot hf w1
    clear hf
    by_cases w4 : a1 = 1
    · have hf5 := zYes hf3 w4
      clear hf3
      refine zz_v w4 ?_
      refine lv_tableIn (x := 1) (off := 51) (tgt := 52) hx hb dX6_count_1 (by decide) (by decide) rfl (by decide) ?_
      refine lv_aload_n hx hb dX6_count_52 rfl (lv_at hl 0 rfl) ?_
      refine zy_get (v := .ref (ad 153)) X Z xL_ok xk_0 rfl rfl (fun w h => List.mem_cons_of_mem _ (List.mem_append_left _ (List.mem_append_left _ (List.mem_append_right _ h)))) 1 rfl (zz_m 1 rfl) rfl dX6_count_53 ?_
      refine zy_get (v := .int (σ 153 7)) X Z xL_ok xk_153 rfl rfl (fun w h => List.mem_cons_of_mem _ (List.mem_append_left _ (List.mem_append_right _ h))) 7 rfl (zz_m 3 rfl) rfl dX6_count_56 ?_
      exact zy_iret X hr hlk Z (zEnd hf5) dX6_count_59
    · have hf6 := zNot hf3 w4
      clear hf3
      by_cases w7 : a1 = 2
      · have hf8 := zYes hf6 w7
        clear hf6
        refine zz_v w7 ?_
        refine lv_tableIn (x := 2) (off := 59) (tgt := 60) hx hb dX6_count_1 (by decide) (by decide) rfl (by decide) ?_
        refine lv_aload_n hx hb dX6_count_60 rfl (lv_at hl 0 rfl) ?_
        refine zy_get (v := .ref (ad 153)) X Z xL_ok xk_0 rfl rfl (fun w h => List.mem_cons_of_mem _ (List.mem_append_left _ (List.mem_append_left _ (List.mem_append_right _ h)))) 1 rfl (zz_m 1 rfl) rfl dX6_count_61 ?_
        obtain ⟨r9, σ10, hc11, hf12⟩ := zBd hf8
        clear hf8
        refine zy_ci (r0 := r9) (WS1 := zg_W XL ad cA σ10) (TYS1 := zg_T XL cA) Z (va_runV (As := []) (rest := []) X (c_X0_shadedSet l D V ad cA 153 xk_153 σ r9 σ10 hc11 s.heap.size) (cwV 0 hts gX6_count_X0_shadedSet rfl rfl rfl ⟨rfl, zh_X0_shadedSet⟩ ⟨Nat.le_of_ble_eq_true rfl, Nat.le_of_ble_eq_true rfl⟩) (zy_pV (ci := 0) Z xL_ok xk_153 rfl rfl) rfl rfl hl.1 rfl (lv_room (Nat.le_of_ble_eq_true rfl)) dX6_count_64 ⟨Nat.le_of_ble_eq_true rfl, Nat.le_of_ble_eq_true rfl⟩) (fun H13 lo14 Z15 => ?_)
        clear Z hc11
        obtain ⟨r16, σ17, hc18, hf19⟩ := zBd hf12
        clear hf12
        refine zy_ci (r0 := r16) (WS1 := zg_W XL ad cA σ17) (TYS1 := zg_T XL cA) Z15 (va_runS (As := [.int r9]) (rest := []) X (c_J6_bitCount_0f7a4 l D V ad cA r9 σ10 r16 σ17 hc18 H13.size) (va_cwS 1 hts gX6_count_J6_bitCount_0f7a4 rfl rfl rfl zh_J6_bitCount_0f7a4 ⟨Nat.le_of_ble_eq_true rfl, Nat.le_of_ble_eq_true rfl⟩) (zz_pS Z15) rfl rfl hl.1 rfl (lv_room (Nat.le_of_ble_eq_true rfl)) dX6_count_67 ⟨Nat.le_of_ble_eq_true rfl, Nat.le_of_ble_eq_true rfl⟩) (fun H20 lo21 Z22 => ?_)
        clear Z15 hc18
        exact zy_iret X hr hlk Z22 (zEnd hf19) dX6_count_70
      · have hf23 := zNot hf6 w7
        clear hf6
        by_cases w24 : a1 = 3
        · have hf25 := zYes hf23 w24
          clear hf23
          refine zz_v w24 ?_
          refine lv_tableIn (x := 3) (off := 70) (tgt := 71) hx hb dX6_count_1 (by decide) (by decide) rfl (by decide) ?_
          refine lv_aload_n hx hb dX6_count_71 rfl (lv_at hl 0 rfl) ?_
          refine zy_get (v := .ref (ad 153)) X Z xL_ok xk_0 rfl rfl (fun w h => List.mem_cons_of_mem _ (List.mem_append_left _ (List.mem_append_left _ (List.mem_append_right _ h)))) 1 rfl (zz_m 1 rfl) rfl dX6_count_72 ?_
          refine zy_get (v := .int (σ 153 4)) X Z xL_ok xk_153 rfl rfl (fun w h => List.mem_cons_of_mem _ (List.mem_append_left _ (List.mem_append_right _ h))) 4 rfl (zz_m 4 rfl) rfl dX6_count_75 ?_
          exact zy_iret X hr hlk Z (zEnd hf25) dX6_count_78
        · have hf26 := zNot hf23 w24
          clear hf23
          by_cases w27 : a1 = 4
          · have hf28 := zYes hf26 w27
            clear hf26
            refine zz_v w27 ?_
            refine lv_tableIn (x := 4) (off := 78) (tgt := 79) hx hb dX6_count_1 (by decide) (by decide) rfl (by decide) ?_
            refine lv_aload_n hx hb dX6_count_79 rfl (lv_at hl 0 rfl) ?_
            refine zy_get (v := .int (σ 0 11)) X Z xL_ok xk_0 rfl rfl (fun w h => List.mem_cons_of_mem _ (List.mem_append_left _ (List.mem_append_left _ (List.mem_append_right _ h)))) 11 rfl (zz_m 5 rfl) rfl dX6_count_80 ?_
            exact zy_iret X hr hlk Z (zEnd hf28) dX6_count_83
          · have hf29 := zNot hf26 w27
            clear hf26
            by_cases w30 : a1 = 5
            · have hf31 := zYes hf29 w30
              clear hf29
              refine zz_v w30 ?_
              refine lv_tableIn (x := 5) (off := 83) (tgt := 84) hx hb dX6_count_1 (by decide) (by decide) rfl (by decide) ?_
              refine lv_aload_n hx hb dX6_count_84 rfl (lv_at hl 0 rfl) ?_
              refine zy_get (v := .int (σ 0 10)) X Z xL_ok xk_0 rfl rfl (fun w h => List.mem_cons_of_mem _ (List.mem_append_left _ (List.mem_append_left _ (List.mem_append_right _ h)))) 10 rfl (zz_m 6 rfl) rfl dX6_count_85 ?_
              exact zy_iret X hr hlk Z (zEnd hf31) dX6_count_88
            · have hf32 := zNot hf29 w30
              clear hf29
              by_cases w33 : a1 = 6
              · have hf34 := zYes hf32 w33
                clear hf32
                refine zz_v w33 ?_
                refine lv_tableIn (x := 6) (off := 88) (tgt := 89) hx hb dX6_count_1 (by decide) (by decide) rfl (by decide) ?_
                refine lv_aload_n hx hb dX6_count_89 rfl (lv_at hl 0 rfl) ?_
                refine zy_get (v := .ref (ad 153)) X Z xL_ok xk_0 rfl rfl (fun w h => List.mem_cons_of_mem _ (List.mem_append_left _ (List.mem_append_left _ (List.mem_append_right _ h)))) 1 rfl (zz_m 1 rfl) rfl dX6_count_90 ?_
                refine zy_get (v := .int (σ 153 13)) X Z xL_ok xk_153 rfl rfl (fun w h => List.mem_cons_of_mem _ (List.mem_append_left _ (List.mem_append_right _ h))) 13 rfl (zz_m 7 rfl) rfl dX6_count_93 ?_
                exact zy_iret X hr hlk Z (zEnd hf34) dX6_count_96
              · have hf35 := zNot hf32 w33
                clear hf32
                have n36 := zNe (k := 0) (y := 0) (by decide) w1
                have n37 := zNe (k := 1) (y := 1) (by decide) w4
                have n38 := zNe (k := 2) (y := 2) (by decide) w7
                have n39 := zNe (k := 3) (y := 3) (by decide) w24
                have n40 := zNe (k := 4) (y := 4) (by decide) w27
                have n41 := zNe (k := 5) (y := 5) (by decide) w30
                have n42 := zNe (k := 6) (y := 6) (by decide) w33
                refine lv_tableOut (tgt := 97) hx hb dX6_count_1 (by omega) (by decide) ?_
                refine lv_ldc (v := (-1000000001)) hx hb hown (hts _ (zz_m 8 rfl)) dX6_count_97 ?_
                exact zy_iret X hr hlk Z (zEnd hf35) dX6_count_99
def B_X6_deal_30 (a1 : Int32) (rec30_ : Int32 → Int32 → zg_S → Option (Int32 × zg_S)) (x2 : Int32) (x3 : Int32) (σ : zg_S) : Option (Int32 × zg_S) := (if x2 ≤ x3 then some (x2, σ) else zbd (f_X0_draw 153 σ) (fun (r4 : Int32) (σ5 : zg_S) => zbd (f_X0_draw 153 σ5) (fun (r13 : Int32) (σ14 : zg_S) => zbd (f_X0_draw 153 σ14) (fun (r22 : Int32) (σ23 : zg_S) => zbd (f_X0_open 153 (r4 - r4 / 6 * 6) (r13 - r13 / 12 * 12) (r22 - r22 / 40 * 40) σ23) (fun (r31 : Int32) (σ32 : zg_S) => rec30_ x2 (x3 + 1) σ32)))))
def L_X6_deal_30 (a1 : Int32) : Nat → Int32 → Int32 → zg_S → Option (Int32 × zg_S) := zfix (fun _ _ _ => none) (B_X6_deal_30 a1)
def f_X6_deal (a1 : Int32) (σ : zg_S) : Option (Int32 × zg_S) := zbd (f_X6_within a1 1 9 σ) (fun (r40 : Int32) (σ41 : zg_S) => (if r40 = 0 then some ((-1000000001), σ41) else zlet (if (9 - (σ41 153 3)) < a1 then 9 - (σ41 153 3) else a1) (fun (y49 : Int32) => L_X6_deal_30 a1 zfu y49 0 σ41)))
set_option maxHeartbeats 4000000 in
set_option maxRecDepth 100000 in
theorem c_X6_deal (l : Launch) (D : va_G) (V : zz_V) (ad : Nat → Nat) (cA : Nat → ClassId) (a1 : Int32)  (σ : zg_S) (r0 : Int32) (σf : zg_S) (hf : f_X6_deal a1 σ = some (r0, σf)) : zM_I l yX6_deal wsX6_deal 1 24 D V XL ad cA [.ref (ad 0), .int a1] σ r0 σf := by
  intro sz
  refine Met.ofW (cc := cX6_deal) (maxL := 7) (ret := (some .int)) (by decide) rfl ?_
  intro p e s m args below meth c s₁ B hml hv
  obtain ⟨rfl, hC⟩ := hv
  have hx := B.exec
  have hb := B.bytes
  have hr := B.returns
  have hts := atoms_spec (ws := wsX6_deal) B.pre
  have hown : s.vm.findClass RX6 = some m.cls := findClass_of_methodNamed B.named
  have hlk := B.notSynchronized
  have X : CallFix p m c cX6_deal 7 s _ wsX6_deal RX6 := ⟨hx, hb, hml, hown, hts⟩
  have Z := zz_enter hC
  generalize va_A (zg_W XL ad cA σ) sz = A at Z ⊢
  have hl := lv_entry ([.ref (ad 0), .int a1]) (n := 7) (Nat.le_of_ble_eq_true rfl)
  rw [lg_entry_eq]
  generalize (lg_sl ([.ref (ad 0), .int a1]) ++ List.replicate (7 - (lg_sl ([.ref (ad 0), .int a1])).length) Slot.unset).toArray = ls at hl ⊢
  have hl : lv_has ls 7 [(0, .ref (ad 0)), (1, .int a1)] := hl
  unfold f_X6_deal at hf
  have b30_ : ∀ (k30_ : Nat) (x2 : Int32) (x3 : Int32) (σ : zg_S), L_X6_deal_30 a1 k30_ x2 x3 σ = some (r0, σf) → ∀ (H : Heap) (locs : List Loc) (ls : Array Slot), zz_S D V A s (zg_W XL ad cA σ) (zg_T XL cA) H locs → lv_has ls 7 [(0, .ref (ad 0)), (2, .int x2), (3, .int x3)] → W p l e (headSpec wsX6_deal { frames := 1, cells := 0, slots := 0, locals := 24 }).room s m (List.toArray [.ref (ad 0), .int a1]) below meth c H locs 0 0 (MQ below (va_Qi (fun r (_ : Unit) => r = r0) (fun _ t => zz_B D A (zg_W XL ad cA σf) (zg_T XL cA) t) A) (List.toArray [.ref (ad 0), .int a1]) s 0 0 A) (F0 m 30 ls []) := by
    intro k30_
    induction k30_ with
    | zero =>
        intro x2 x3 σ hf30_ H30_ locs30_ ls30_ Z30_ hl30_
        exact zNone hf30_
    | succ k30_ ih30_ =>
        intro x2 x3 σ hf30_ H30_ locs30_ ls30_ Z30_ hl30_
        replace hf30_ : B_X6_deal_30 a1 (L_X6_deal_30 a1 k30_) x2 x3 σ = some (r0, σf) := hf30_
        unfold B_X6_deal_30 at hf30_
        refine lv_iload_n hx hb dX6_deal_30 rfl (lv_at hl30_ 2 rfl) ?_
        refine lv_iload_n hx hb dX6_deal_31 rfl (lv_at hl30_ 1 rfl) ?_
        refine lv_icmp_ge (tgt := 91) hx hb dX6_deal_32 (by decide) (fun b1 => ?_) (fun b1 => ?_)
        · have hf2 := zYes hf30_ b1
          clear hf30_
          refine lv_iload_n hx hb dX6_deal_91 rfl (lv_at hl30_ 1 rfl) ?_
          exact zy_iret X hr hlk Z30_ (zEnd hf2) dX6_deal_92
        · have hf3 := zNot hf30_ b1
          clear hf30_
          refine lv_aload_n hx hb dX6_deal_35 rfl (lv_at hl30_ 0 rfl) ?_
          refine zy_get (v := .ref (ad 153)) X Z30_ xL_ok xk_0 rfl rfl (fun w h => List.mem_cons_of_mem _ (List.mem_append_left _ (List.mem_append_left _ (List.mem_append_right _ h)))) 1 rfl (zz_m 2 rfl) rfl dX6_deal_36 ?_
          obtain ⟨r4, σ5, hc6, hf7⟩ := zBd hf3
          clear hf3
          refine zy_ci (r0 := r4) (WS1 := zg_W XL ad cA σ5) (TYS1 := zg_T XL cA) Z30_ (va_runV (As := []) (rest := []) X (c_X0_draw l D V ad cA 153 xk_153 σ r4 σ5 hc6 H30_.size) (cwV 0 hts gX6_deal_X0_draw rfl rfl rfl ⟨rfl, zh_X0_draw⟩ ⟨Nat.le_of_ble_eq_true rfl, Nat.le_of_ble_eq_true rfl⟩) (zy_pV (ci := 0) Z30_ xL_ok xk_153 rfl rfl) rfl rfl hl30_.1 rfl (lv_room (Nat.le_of_ble_eq_true rfl)) dX6_deal_39 ⟨Nat.le_of_ble_eq_true rfl, Nat.le_of_ble_eq_true rfl⟩) (fun H8 lo9 Z10 => ?_)
          clear Z30_ hc6
          refine lv_bipush (v := 6) hx hb dX6_deal_42 (by decide) ?_
          refine lv_irem hx hb dX6_deal_44 (by decide) ?_
          refine lv_istore (lv' := [(4, .int (r4 - r4 / 6 * 6)), (0, .ref (ad 0)), (2, .int x2), (3, .int x3)]) hx hb dX6_deal_45 hl30_ (by decide) rfl (fun ls12 hl11 => ?_)
          clear hl30_
          refine lv_aload_n hx hb dX6_deal_47 rfl (lv_at hl11 1 rfl) ?_
          refine zy_get (v := .ref (ad 153)) X Z10 xL_ok xk_0 rfl rfl (fun w h => List.mem_cons_of_mem _ (List.mem_append_left _ (List.mem_append_left _ (List.mem_append_right _ h)))) 1 rfl (zz_m 2 rfl) rfl dX6_deal_48 ?_
          obtain ⟨r13, σ14, hc15, hf16⟩ := zBd hf7
          clear hf7
          refine zy_ci (r0 := r13) (WS1 := zg_W XL ad cA σ14) (TYS1 := zg_T XL cA) Z10 (va_runV (As := []) (rest := []) X (c_X0_draw l D V ad cA 153 xk_153 σ5 r13 σ14 hc15 H8.size) (cwV 0 hts gX6_deal_X0_draw rfl rfl rfl ⟨rfl, zh_X0_draw⟩ ⟨Nat.le_of_ble_eq_true rfl, Nat.le_of_ble_eq_true rfl⟩) (zy_pV (ci := 0) Z10 xL_ok xk_153 rfl rfl) rfl rfl hl11.1 rfl (lv_room (Nat.le_of_ble_eq_true rfl)) dX6_deal_51 ⟨Nat.le_of_ble_eq_true rfl, Nat.le_of_ble_eq_true rfl⟩) (fun H17 lo18 Z19 => ?_)
          clear Z10 hc15
          refine lv_bipush (v := 12) hx hb dX6_deal_54 (by decide) ?_
          refine lv_irem hx hb dX6_deal_56 (by decide) ?_
          refine lv_istore (lv' := [(5, .int (r13 - r13 / 12 * 12)), (4, .int (r4 - r4 / 6 * 6)), (0, .ref (ad 0)), (2, .int x2), (3, .int x3)]) hx hb dX6_deal_57 hl11 (by decide) rfl (fun ls21 hl20 => ?_)
          clear hl11
          refine lv_aload_n hx hb dX6_deal_59 rfl (lv_at hl20 2 rfl) ?_
          refine zy_get (v := .ref (ad 153)) X Z19 xL_ok xk_0 rfl rfl (fun w h => List.mem_cons_of_mem _ (List.mem_append_left _ (List.mem_append_left _ (List.mem_append_right _ h)))) 1 rfl (zz_m 2 rfl) rfl dX6_deal_60 ?_
          obtain ⟨r22, σ23, hc24, hf25⟩ := zBd hf16
          clear hf16
          refine zy_ci (r0 := r22) (WS1 := zg_W XL ad cA σ23) (TYS1 := zg_T XL cA) Z19 (va_runV (As := []) (rest := []) X (c_X0_draw l D V ad cA 153 xk_153 σ14 r22 σ23 hc24 H17.size) (cwV 0 hts gX6_deal_X0_draw rfl rfl rfl ⟨rfl, zh_X0_draw⟩ ⟨Nat.le_of_ble_eq_true rfl, Nat.le_of_ble_eq_true rfl⟩) (zy_pV (ci := 0) Z19 xL_ok xk_153 rfl rfl) rfl rfl hl20.1 rfl (lv_room (Nat.le_of_ble_eq_true rfl)) dX6_deal_63 ⟨Nat.le_of_ble_eq_true rfl, Nat.le_of_ble_eq_true rfl⟩) (fun H26 lo27 Z28 => ?_)
          clear Z19 hc24
          refine lv_bipush (v := 40) hx hb dX6_deal_66 (by decide) ?_
          refine lv_irem hx hb dX6_deal_68 (by decide) ?_
          refine lv_istore (lv' := [(6, .int (r22 - r22 / 40 * 40)), (5, .int (r13 - r13 / 12 * 12)), (4, .int (r4 - r4 / 6 * 6)), (0, .ref (ad 0)), (2, .int x2), (3, .int x3)]) hx hb dX6_deal_69 hl20 (by decide) rfl (fun ls30 hl29 => ?_)
          clear hl20
          refine lv_aload_n hx hb dX6_deal_71 rfl (lv_at hl29 3 rfl) ?_
          refine zy_get (v := .ref (ad 153)) X Z28 xL_ok xk_0 rfl rfl (fun w h => List.mem_cons_of_mem _ (List.mem_append_left _ (List.mem_append_left _ (List.mem_append_right _ h)))) 1 rfl (zz_m 2 rfl) rfl dX6_deal_72 ?_
          refine lv_iload hx hb dX6_deal_75 (lv_at hl29 2 rfl) ?_
          refine lv_iload hx hb dX6_deal_77 (lv_at hl29 1 rfl) ?_
          refine lv_iload hx hb dX6_deal_79 (lv_at hl29 0 rfl) ?_
          obtain ⟨r31, σ32, hc33, hf34⟩ := zBd hf25
          clear hf25
          refine zy_ci (r0 := r31) (WS1 := zg_W XL ad cA σ32) (TYS1 := zg_T XL cA) Z28 (va_runV (As := [.int (r4 - r4 / 6 * 6), .int (r13 - r13 / 12 * 12), .int (r22 - r22 / 40 * 40)]) (rest := []) X (c_X0_open l D V ad cA 153 (r4 - r4 / 6 * 6) (r13 - r13 / 12 * 12) (r22 - r22 / 40 * 40) xk_153 σ23 r31 σ32 hc33 H26.size) (cwV 3 hts gX6_deal_X0_open rfl rfl rfl ⟨rfl, zh_X0_open⟩ ⟨Nat.le_of_ble_eq_true rfl, Nat.le_of_ble_eq_true rfl⟩) (zy_pV (ci := 0) Z28 xL_ok xk_153 rfl rfl) rfl rfl hl29.1 rfl (lv_room (Nat.le_of_ble_eq_true rfl)) dX6_deal_81 ⟨Nat.le_of_ble_eq_true rfl, Nat.le_of_ble_eq_true rfl⟩) (fun H35 lo36 Z37 => ?_)
          clear Z28 hc33
          refine lv_pop hx hb dX6_deal_84 rfl ?_
          refine lv_iinc (v := (x3 + 1)) (lv' := [(3, .int (x3 + 1)), (6, .int (r22 - r22 / 40 * 40)), (5, .int (r13 - r13 / 12 * 12)), (4, .int (r4 - r4 / 6 * 6)), (0, .ref (ad 0)), (2, .int x2)]) hx hb dX6_deal_85 hl29 (k := 5) rfl rfl (by decide) rfl (fun ls39 hl38 => ?_)
          clear hl29
          refine lv_goto (tgt := 30) hx hb dX6_deal_88 (by decide) ?_
          exact ih30_ x2 (x3 + 1) σ32 hf34 _ _ _ Z37 (lv_sub hl38 [4, 5, 0] rfl)
  refine lv_iload_n hx hb dX6_deal_0 rfl (lv_at hl 1 rfl) ?_
  refine lv_iconst (v := 1) hx hb dX6_deal_1 (by decide) ?_
  refine lv_bipush (v := 9) hx hb dX6_deal_2 (by decide) ?_
  obtain ⟨r40, σ41, hc42, hf43⟩ := zBd hf
  clear hf
  refine zy_ci (r0 := r40) (WS1 := zg_W XL ad cA σ41) (TYS1 := zg_T XL cA) Z (va_runS (As := [.int a1, .int 1, .int 9]) (rest := []) X (c_X6_within l D V ad cA a1 1 9 σ r40 σ41 hc42 s.heap.size) (va_cwS 3 hts gX6_deal_X6_within rfl rfl rfl zh_X6_within ⟨Nat.le_of_ble_eq_true rfl, Nat.le_of_ble_eq_true rfl⟩) (zz_pS Z) rfl rfl hl.1 rfl (lv_room (Nat.le_of_ble_eq_true rfl)) dX6_deal_4 ⟨Nat.le_of_ble_eq_true rfl, Nat.le_of_ble_eq_true rfl⟩) (fun H44 lo45 Z46 => ?_)
  clear Z hc42
  refine lv_if_ne (tgt := 13) hx hb dX6_deal_7 (by decide) (fun b47 => ?_) (fun b47 => ?_)
  · have hf48 := zNot hf43 b47
    clear hf43
    refine lv_iload_n hx hb dX6_deal_13 rfl (lv_at hl 1 rfl) ?_
    refine lv_bipush (v := 9) hx hb dX6_deal_14 (by decide) ?_
    refine lv_aload_n hx hb dX6_deal_16 rfl (lv_at hl 0 rfl) ?_
    refine zy_get (v := .ref (ad 153)) X Z46 xL_ok xk_0 rfl rfl (fun w h => List.mem_cons_of_mem _ (List.mem_append_left _ (List.mem_append_left _ (List.mem_append_right _ h)))) 1 rfl (zz_m 2 rfl) rfl dX6_deal_17 ?_
    refine zy_get (v := .int (σ41 153 3)) X Z46 xL_ok xk_153 rfl rfl (fun w h => List.mem_cons_of_mem _ (List.mem_append_left _ (List.mem_append_right _ h))) 3 rfl (zz_m 3 rfl) rfl dX6_deal_20 ?_
    refine lv_isub hx hb dX6_deal_23 ?_
    refine va_mmin hx hb (by rw [hml]; exact hl.1.symm) hown (hts _ (zz_m 4 rfl)) (hts _ (zz_m 5 rfl)) (hts _ (zz_m 6 rfl)) (hts _ (zz_m 7 rfl)) (Nat.le_of_ble_eq_true rfl) (Nat.le_of_ble_eq_true rfl) (Nat.le_of_ble_eq_true rfl) (Nat.le_of_ble_eq_true rfl) dX6_deal_24 ?_
    obtain ⟨y49, ey50, hf51⟩ := zLet hf48
    clear hf48
    refine zz_v (v := y49) ey50.symm ?_
    clear ey50
    refine lv_istore_n (lv' := [(2, .int y49), (0, .ref (ad 0)), (1, .int a1)]) hx hb dX6_deal_27 rfl hl (by decide) rfl (fun ls53 hl52 => ?_)
    clear hl
    refine lv_iconst (v := 0) hx hb dX6_deal_28 (by decide) ?_
    refine lv_istore_n (lv' := [(3, .int 0), (2, .int y49), (0, .ref (ad 0)), (1, .int a1)]) hx hb dX6_deal_29 rfl hl52 (by decide) rfl (fun ls55 hl54 => ?_)
    clear hl52
    exact b30_ zfu y49 0 σ41 hf51 _ _ _ Z46 (lv_sub hl54 [2, 1, 0] rfl)
  · have hf56 := zYes hf43 b47
    clear hf43
    refine lv_ldc (v := (-1000000001)) hx hb hown (hts _ (zz_m 1 rfl)) dX6_deal_10 ?_
    exact zy_iret X hr hlk Z46 (zEnd hf56) dX6_deal_12
def f_X6_fee  (σ : zg_S) : Option (Int32 × zg_S) := zbd (f_X6_within (σ 155 1) 0 13 σ) (fun (r3 : Int32) (σ4 : zg_S) => (if r3 = 0 then some (σ4 153 10, σ4) else (if zin (σ 155 1) 14 = true then zbd (f_X5_workOut (11 + 3 * (Int32.toNatClampNeg (σ 155 1))) (σ4 153 10) (σ4 153 12) 0 σ4) (fun (r15 : Int32) (σ16 : zg_S) => some (r15, σ16)) else none)))
set_option maxHeartbeats 4000000 in
set_option maxRecDepth 100000 in
theorem c_X6_fee (l : Launch) (D : va_G) (V : zz_V) (ad : Nat → Nat) (cA : Nat → ClassId)   (σ : zg_S) (r0 : Int32) (σf : zg_S) (hf : f_X6_fee  σ = some (r0, σf)) : zM_I l yX6_fee wsX6_fee 2 48 D V XL ad cA [.ref (ad 0)] σ r0 σf := by
  intro sz
  refine Met.ofW (cc := cX6_fee) (maxL := 2) (ret := (some .int)) (by decide) rfl ?_
  intro p e s m args below meth c s₁ B hml hv
  obtain ⟨rfl, hC⟩ := hv
  have hx := B.exec
  have hb := B.bytes
  have hr := B.returns
  have hts := atoms_spec (ws := wsX6_fee) B.pre
  have hown : s.vm.findClass RX6 = some m.cls := findClass_of_methodNamed B.named
  have hlk := B.notSynchronized
  have X : CallFix p m c cX6_fee 2 s _ wsX6_fee RX6 := ⟨hx, hb, hml, hown, hts⟩
  have Z := zz_enter hC
  generalize va_A (zg_W XL ad cA σ) sz = A at Z ⊢
  have hl := lv_entry ([.ref (ad 0)]) (n := 2) (Nat.le_of_ble_eq_true rfl)
  rw [lg_entry_eq]
  generalize (lg_sl ([.ref (ad 0)]) ++ List.replicate (2 - (lg_sl ([.ref (ad 0)])).length) Slot.unset).toArray = ls at hl ⊢
  have hl : lv_has ls 2 [(0, .ref (ad 0))] := hl
  unfold f_X6_fee at hf
  refine lv_aload_n hx hb dX6_fee_0 rfl (lv_at hl 0 rfl) ?_
  refine zy_get (v := .ref (ad 153)) X Z xL_ok xk_0 rfl rfl (fun w h => List.mem_cons_of_mem _ (List.mem_append_left _ (List.mem_append_left _ (List.mem_append_right _ h)))) 1 rfl (zz_m 1 rfl) rfl dX6_fee_1 ?_
  refine zy_get (v := .ref (ad 155)) X Z xL_ok xk_153 rfl rfl (fun w h => List.mem_cons_of_mem _ (List.mem_append_left _ (List.mem_append_right _ h))) 2 rfl (zz_m 2 rfl) rfl dX6_fee_4 ?_
  refine lv_iconst (v := 1) hx hb dX6_fee_7 (by decide) ?_
  refine zy_ild X Z xL_ok xk_155 xl_155 (zz_in 1 3 rfl) dX6_fee_8 ?_
  refine zz_v (v := σ 155 1) rfl ?_
  refine lv_istore_n (lv' := [(1, .int (σ 155 1)), (0, .ref (ad 0))]) hx hb dX6_fee_9 rfl hl (by decide) rfl (fun ls2 hl1 => ?_)
  clear hl
  refine lv_iload_n hx hb dX6_fee_10 rfl (lv_at hl1 0 rfl) ?_
  refine lv_iconst (v := 0) hx hb dX6_fee_11 (by decide) ?_
  refine lv_bipush (v := 13) hx hb dX6_fee_12 (by decide) ?_
  obtain ⟨r3, σ4, hc5, hf6⟩ := zBd hf
  clear hf
  refine zy_ci (r0 := r3) (WS1 := zg_W XL ad cA σ4) (TYS1 := zg_T XL cA) Z (va_runS (As := [.int (σ 155 1), .int 0, .int 13]) (rest := []) X (c_X6_within l D V ad cA (σ 155 1) 0 13 σ r3 σ4 hc5 s.heap.size) (va_cwS 3 hts gX6_fee_X6_within rfl rfl rfl zh_X6_within ⟨Nat.le_of_ble_eq_true rfl, Nat.le_of_ble_eq_true rfl⟩) (zz_pS Z) rfl rfl hl1.1 rfl (lv_room (Nat.le_of_ble_eq_true rfl)) dX6_fee_14 ⟨Nat.le_of_ble_eq_true rfl, Nat.le_of_ble_eq_true rfl⟩) (fun H7 lo8 Z9 => ?_)
  clear Z hc5
  refine lv_if_ne (tgt := 28) hx hb dX6_fee_17 (by decide) (fun b10 => ?_) (fun b10 => ?_)
  · have hf11 := zNot hf6 b10
    clear hf6
    refine lv_aload_n hx hb dX6_fee_28 rfl (lv_at hl1 1 rfl) ?_
    refine zy_get (v := .ref (ad 1)) X Z9 xL_ok xk_0 rfl rfl (fun w h => List.mem_cons_of_mem _ (List.mem_append_left _ (List.mem_append_left _ (List.mem_append_right _ h)))) 0 rfl (zz_m 4 rfl) rfl dX6_fee_29 ?_
    refine lv_iload_n hx hb dX6_fee_32 rfl (lv_at hl1 0 rfl) ?_
    obtain ⟨⟨i12, j13⟩, hf14⟩ := zG hf11
    clear hf11
    refine zy_ald (v := (11 + 3 * (Int32.toNatClampNeg (σ 155 1)))) (C := RX5) X Z9 xL_ok xk_1 rfl rfl xl_1 rfl i12 rfl dX6_fee_33 ?_
    refine lv_aload_n hx hb dX6_fee_34 rfl (lv_at hl1 1 rfl) ?_
    refine zy_get (v := .ref (ad 153)) X Z9 xL_ok xk_0 rfl rfl (fun w h => List.mem_cons_of_mem _ (List.mem_append_left _ (List.mem_append_left _ (List.mem_append_right _ h)))) 1 rfl (zz_m 1 rfl) rfl dX6_fee_35 ?_
    refine zy_get (v := .int (σ4 153 10)) X Z9 xL_ok xk_153 rfl rfl (fun w h => List.mem_cons_of_mem _ (List.mem_append_left _ (List.mem_append_right _ h))) 10 rfl (zz_m 3 rfl) rfl dX6_fee_38 ?_
    refine lv_aload_n hx hb dX6_fee_41 rfl (lv_at hl1 1 rfl) ?_
    refine zy_get (v := .ref (ad 153)) X Z9 xL_ok xk_0 rfl rfl (fun w h => List.mem_cons_of_mem _ (List.mem_append_left _ (List.mem_append_left _ (List.mem_append_right _ h)))) 1 rfl (zz_m 1 rfl) rfl dX6_fee_42 ?_
    refine zy_get (v := .int (σ4 153 12)) X Z9 xL_ok xk_153 rfl rfl (fun w h => List.mem_cons_of_mem _ (List.mem_append_left _ (List.mem_append_right _ h))) 12 rfl (zz_m 5 rfl) rfl dX6_fee_45 ?_
    refine lv_iconst (v := 0) hx hb dX6_fee_48 (by decide) ?_
    obtain ⟨r15, σ16, hc17, hf18⟩ := zBd hf14
    clear hf14
    refine zy_ci (r0 := r15) (WS1 := zg_W XL ad cA σ16) (TYS1 := zg_T XL cA) Z9 (va_runV (As := [.int (σ4 153 10), .int (σ4 153 12), .int 0]) (rest := []) X (c_X5_workOut l D V ad cA (11 + 3 * (Int32.toNatClampNeg (σ 155 1))) (σ4 153 10) (σ4 153 12) 0 (xT j13) σ4 r15 σ16 hc17 H7.size) (cwV 3 hts gX6_fee_X5_workOut rfl rfl rfl ⟨rfl, zh_X5_workOut⟩ ⟨Nat.le_of_ble_eq_true rfl, Nat.le_of_ble_eq_true rfl⟩) (zy_pV (ci := 5) Z9 xL_ok (xT j13) rfl rfl) rfl rfl hl1.1 rfl (lv_room (Nat.le_of_ble_eq_true rfl)) dX6_fee_49 ⟨Nat.le_of_ble_eq_true rfl, Nat.le_of_ble_eq_true rfl⟩) (fun H19 lo20 Z21 => ?_)
    clear Z9 hc17
    exact zy_iret X hr hlk Z21 (zEnd hf18) dX6_fee_52
  · have hf22 := zYes hf6 b10
    clear hf6
    refine lv_aload_n hx hb dX6_fee_20 rfl (lv_at hl1 1 rfl) ?_
    refine zy_get (v := .ref (ad 153)) X Z9 xL_ok xk_0 rfl rfl (fun w h => List.mem_cons_of_mem _ (List.mem_append_left _ (List.mem_append_left _ (List.mem_append_right _ h)))) 1 rfl (zz_m 1 rfl) rfl dX6_fee_21 ?_
    refine zy_get (v := .int (σ4 153 10)) X Z9 xL_ok xk_153 rfl rfl (fun w h => List.mem_cons_of_mem _ (List.mem_append_left _ (List.mem_append_right _ h))) 10 rfl (zz_m 3 rfl) rfl dX6_fee_24 ?_
    exact zy_iret X hr hlk Z9 (zEnd hf22) dX6_fee_27
def B_X6_feedBytes_3 (a1 : Int32) (rec3_ : Int32 → zg_S → Option (Int32 × zg_S)) (x2 : Int32) (σ : zg_S) : Option (Int32 × zg_S) := (if x2 < 0 then some (0, σ) else (if 96 ≤ (σ 0 10) then some (0, σ) else zlet (((Int32.toUInt32 a1 >>> (Int32.toUInt32 x2 &&& Int32.toUInt32 31)).toInt32) &&& 255) (fun (y7 : Int32) => (if zin (σ 0 10) 96 = true then zlet (zg_up σ 6 (Int32.toNatClampNeg (σ 0 10)) y7) (fun (σ13 : zg_S) => zlet (zg_up σ13 0 10 ((σ13 0 10) + 1)) (fun (σ19 : zg_S) => rec3_ (x2 + (-8)) σ19)) else none))))
def L_X6_feedBytes_3 (a1 : Int32) : Nat → Int32 → zg_S → Option (Int32 × zg_S) := zfix (fun _ _ => none) (B_X6_feedBytes_3 a1)
def f_X6_feedBytes (a1 : Int32) (σ : zg_S) : Option (Int32 × zg_S) := L_X6_feedBytes_3 a1 zfu 24 σ
set_option maxHeartbeats 4000000 in
set_option maxRecDepth 100000 in
theorem c_X6_feedBytes (l : Launch) (D : va_G) (V : zz_V) (ad : Nat → Nat) (cA : Nat → ClassId) (a1 : Int32)  (σ : zg_S) (r0 : Int32) (σf : zg_S) (hf : f_X6_feedBytes a1 σ = some (r0, σf)) : zM_V l yX6_feedBytes wsX6_feedBytes 0 0 D V XL ad cA [.ref (ad 0), .int a1] σ r0 σf := by
  intro sz
  refine Met.ofW (cc := cX6_feedBytes) (maxL := 3) (ret := none) (by decide) rfl ?_
  intro p e s m args below meth c s₁ B hml hv
  obtain ⟨rfl, hC⟩ := hv
  have hx := B.exec
  have hb := B.bytes
  have hr := B.returns
  have hts := atoms_spec (ws := wsX6_feedBytes) B.pre
  have hown : s.vm.findClass RX6 = some m.cls := findClass_of_methodNamed B.named
  have hlk := B.notSynchronized
  have X : CallFix p m c cX6_feedBytes 3 s _ wsX6_feedBytes RX6 := ⟨hx, hb, hml, hown, hts⟩
  have Z := zz_enter hC
  generalize va_A (zg_W XL ad cA σ) sz = A at Z ⊢
  have hl := lv_entry ([.ref (ad 0), .int a1]) (n := 3) (Nat.le_of_ble_eq_true rfl)
  rw [lg_entry_eq]
  generalize (lg_sl ([.ref (ad 0), .int a1]) ++ List.replicate (3 - (lg_sl ([.ref (ad 0), .int a1])).length) Slot.unset).toArray = ls at hl ⊢
  have hl : lv_has ls 3 [(0, .ref (ad 0)), (1, .int a1)] := hl
  unfold f_X6_feedBytes at hf
  have b3_ : ∀ (k3_ : Nat) (x2 : Int32) (σ : zg_S), L_X6_feedBytes_3 a1 k3_ x2 σ = some (r0, σf) → ∀ (H : Heap) (locs : List Loc) (ls : Array Slot), zz_S D V A s (zg_W XL ad cA σ) (zg_T XL cA) H locs → lv_has ls 3 [(0, .ref (ad 0)), (1, .int a1), (2, .int x2)] → W p l e (headSpec wsX6_feedBytes { frames := 0, cells := 0, slots := 0, locals := 0 }).room s m (List.toArray [.ref (ad 0), .int a1]) below meth c H locs 0 0 (MQ below (va_Qv (fun (_ : Unit) => True) (fun _ t => zz_B D A (zg_W XL ad cA σf) (zg_T XL cA) t) A) (List.toArray [.ref (ad 0), .int a1]) s 0 0 A) (F0 m 3 ls []) := by
    intro k3_
    induction k3_ with
    | zero =>
        intro x2 σ hf3_ H3_ locs3_ ls3_ Z3_ hl3_
        exact zNone hf3_
    | succ k3_ ih3_ =>
        intro x2 σ hf3_ H3_ locs3_ ls3_ Z3_ hl3_
        replace hf3_ : B_X6_feedBytes_3 a1 (L_X6_feedBytes_3 a1 k3_) x2 σ = some (r0, σf) := hf3_
        unfold B_X6_feedBytes_3 at hf3_
        refine lv_iload_n hx hb dX6_feedBytes_3 rfl (lv_at hl3_ 2 rfl) ?_
        refine lv_if_lt (tgt := 48) hx hb dX6_feedBytes_4 (by decide) (fun b1 => ?_) (fun b1 => ?_)
        · have hf2 := zYes hf3_ b1
          clear hf3_
          exact zy_vret X hr hlk Z3_ (zEnd hf2) dX6_feedBytes_48
        · have hf3 := zNot hf3_ b1
          clear hf3_
          refine lv_aload_n hx hb dX6_feedBytes_7 rfl (lv_at hl3_ 0 rfl) ?_
          refine zy_get (v := .int (σ 0 10)) X Z3_ xL_ok xk_0 rfl rfl (fun w h => List.mem_cons_of_mem _ (List.mem_append_right _ h)) 10 rfl (zz_m 1 rfl) rfl dX6_feedBytes_8 ?_
          refine lv_bipush (v := 96) hx hb dX6_feedBytes_11 (by decide) ?_
          refine lv_icmp_ge (tgt := 48) hx hb dX6_feedBytes_13 (by decide) (fun b4 => ?_) (fun b4 => ?_)
          · have hf5 := zYes hf3 b4
            clear hf3
            exact zy_vret X hr hlk Z3_ (zEnd hf5) dX6_feedBytes_48
          · have hf6 := zNot hf3 b4
            clear hf3
            refine lv_aload_n hx hb dX6_feedBytes_16 rfl (lv_at hl3_ 0 rfl) ?_
            refine zy_get (v := .ref (ad 6)) X Z3_ xL_ok xk_0 rfl rfl (fun w h => List.mem_cons_of_mem _ (List.mem_append_right _ h)) 5 rfl (zz_m 2 rfl) rfl dX6_feedBytes_17 ?_
            refine lv_aload_n hx hb dX6_feedBytes_20 rfl (lv_at hl3_ 0 rfl) ?_
            refine zy_get (v := .int (σ 0 10)) X Z3_ xL_ok xk_0 rfl rfl (fun w h => List.mem_cons_of_mem _ (List.mem_append_right _ h)) 10 rfl (zz_m 1 rfl) rfl dX6_feedBytes_21 ?_
            refine lv_iload_n hx hb dX6_feedBytes_24 rfl (lv_at hl3_ 1 rfl) ?_
            refine lv_iload_n hx hb dX6_feedBytes_25 rfl (lv_at hl3_ 2 rfl) ?_
            refine lv_iushr (v := (Int32.toUInt32 a1 >>> (Int32.toUInt32 x2 &&& Int32.toUInt32 31)).toInt32) hx hb dX6_feedBytes_26 rfl ?_
            refine lv_sipush (v := 255) hx hb dX6_feedBytes_27 (by decide) ?_
            refine lv_iand hx hb dX6_feedBytes_30 ?_
            obtain ⟨y7, ey8, hf9⟩ := zLet hf6
            clear hf6
            refine zz_v (v := y7) ey8.symm ?_
            clear ey8
            obtain ⟨⟨i10, j11⟩, hf12⟩ := zG hf9
            clear hf9
            obtain ⟨σ13, es14, hf15⟩ := zLet hf12
            clear hf12
            refine zy_ist (σ' := σ13) X Z3_ xL_ok xk_6 xl_6 i10 es14 dX6_feedBytes_31 (fun H16 lo17 Z18 => ?_)
            clear Z3_ es14
            refine lv_aload_n hx hb dX6_feedBytes_32 rfl (lv_at hl3_ 0 rfl) ?_
            refine lv_dup hx hb dX6_feedBytes_33 rfl ?_
            refine zy_get (v := .int (σ13 0 10)) X Z18 xL_ok xk_0 rfl rfl (fun w h => List.mem_cons_of_mem _ (List.mem_append_right _ h)) 10 rfl (zz_m 1 rfl) rfl dX6_feedBytes_34 ?_
            refine lv_iconst (v := 1) hx hb dX6_feedBytes_37 (by decide) ?_
            refine lv_iadd hx hb dX6_feedBytes_38 ?_
            obtain ⟨σ19, es20, hf21⟩ := zLet hf15
            clear hf15
            refine zy_put (v := (σ13 0 10) + 1) (σ' := σ19) X Z18 xL_ok xk_0 rfl rfl (fun w h => List.mem_cons_of_mem _ (List.mem_append_right _ h)) tyX6 tyX6_ok nmX6 10 rfl (zz_m 1 rfl) rfl rfl rfl (fun _ => rfl) (fun _ => rfl) es20 dX6_feedBytes_39 (fun H22 lo23 Z24 => ?_)
            clear Z18 es20
            refine lv_iinc (v := (x2 + (-8))) (lv' := [(2, .int (x2 + (-8))), (0, .ref (ad 0)), (1, .int a1)]) hx hb dX6_feedBytes_42 hl3_ (k := 2) rfl rfl (by decide) rfl (fun ls26 hl25 => ?_)
            clear hl3_
            refine lv_goto (tgt := 3) hx hb dX6_feedBytes_45 (by decide) ?_
            exact ih3_ (x2 + (-8)) σ19 hf21 _ _ _ Z24 (lv_sub hl25 [1, 2, 0] rfl)
  refine lv_bipush (v := 24) hx hb dX6_feedBytes_0 (by decide) ?_
  refine lv_istore_n (lv' := [(2, .int 24), (0, .ref (ad 0)), (1, .int a1)]) hx hb dX6_feedBytes_2 rfl hl (by decide) rfl (fun ls28 hl27 => ?_)
  clear hl
  exact b3_ zfu 24 σ hf _ _ _ Z (lv_sub hl27 [1, 2, 0] rfl)
def f_X6_feed (a1 : Int32) (a2 : Int32) (a3 : Int32) (σ : zg_S) : Option (Int32 × zg_S) := (if ((σ 0 10) + 12) ≤ 96 then zbd (f_X6_feedBytes a1 σ) (fun (r3 : Int32) (σ4 : zg_S) => zbd (f_X6_feedBytes a2 σ4) (fun (r10 : Int32) (σ11 : zg_S) => zbd (f_X6_feedBytes a3 σ11) (fun (r17 : Int32) (σ18 : zg_S) => some (σ18 0 10, σ18)))) else some ((-1000000003), σ))
set_option maxHeartbeats 4000000 in
set_option maxRecDepth 100000 in
theorem c_X6_feed (l : Launch) (D : va_G) (V : zz_V) (ad : Nat → Nat) (cA : Nat → ClassId) (a1 : Int32) (a2 : Int32) (a3 : Int32)  (σ : zg_S) (r0 : Int32) (σf : zg_S) (hf : f_X6_feed a1 a2 a3 σ = some (r0, σf)) : zM_I l yX6_feed wsX6_feed 1 22 D V XL ad cA [.ref (ad 0), .int a1, .int a2, .int a3] σ r0 σf := by
  intro sz
  refine Met.ofW (cc := cX6_feed) (maxL := 4) (ret := (some .int)) (by decide) rfl ?_
  intro p e s m args below meth c s₁ B hml hv
  obtain ⟨rfl, hC⟩ := hv
  have hx := B.exec
  have hb := B.bytes
  have hr := B.returns
  have hts := atoms_spec (ws := wsX6_feed) B.pre
  have hown : s.vm.findClass RX6 = some m.cls := findClass_of_methodNamed B.named
  have hlk := B.notSynchronized
  have X : CallFix p m c cX6_feed 4 s _ wsX6_feed RX6 := ⟨hx, hb, hml, hown, hts⟩
  have Z := zz_enter hC
  generalize va_A (zg_W XL ad cA σ) sz = A at Z ⊢
  have hl := lv_entry ([.ref (ad 0), .int a1, .int a2, .int a3]) (n := 4) (Nat.le_of_ble_eq_true rfl)
  rw [lg_entry_eq]
  generalize (lg_sl ([.ref (ad 0), .int a1, .int a2, .int a3]) ++ List.replicate (4 - (lg_sl ([.ref (ad 0), .int a1, .int a2, .int a3])).length) Slot.unset).toArray = ls at hl ⊢
  have hl : lv_has ls 4 [(0, .ref (ad 0)), (1, .int a1), (2, .int a2), (3, .int a3)] := hl
  unfold f_X6_feed at hf
  refine lv_aload_n hx hb dX6_feed_0 rfl (lv_at hl 0 rfl) ?_
  refine zy_get (v := .int (σ 0 10)) X Z xL_ok xk_0 rfl rfl (fun w h => List.mem_cons_of_mem _ (List.mem_append_right _ h)) 10 rfl (zz_m 1 rfl) rfl dX6_feed_1 ?_
  refine lv_bipush (v := 12) hx hb dX6_feed_4 (by decide) ?_
  refine lv_iadd hx hb dX6_feed_6 ?_
  refine lv_bipush (v := 96) hx hb dX6_feed_7 (by decide) ?_
  refine lv_icmp_le (tgt := 15) hx hb dX6_feed_9 (by decide) (fun b1 => ?_) (fun b1 => ?_)
  · have hf2 := zYes hf b1
    clear hf
    refine lv_aload_n hx hb dX6_feed_15 rfl (lv_at hl 0 rfl) ?_
    refine lv_iload_n hx hb dX6_feed_16 rfl (lv_at hl 1 rfl) ?_
    obtain ⟨r3, σ4, hc5, hf6⟩ := zBd hf2
    clear hf2
    refine zy_cv (WS1 := zg_W XL ad cA σ4) (TYS1 := zg_T XL cA) Z (va_runV (As := [.int a1]) (rest := []) X (c_X6_feedBytes l D V ad cA a1 σ r3 σ4 hc5 s.heap.size) (cwV 1 hts gX6_feed_X6_feedBytes rfl rfl rfl ⟨rfl, zh_X6_feedBytes⟩ ⟨Nat.le_of_ble_eq_true rfl, Nat.le_of_ble_eq_true rfl⟩) (zy_pV (ci := 6) Z xL_ok xk_0 rfl rfl) rfl rfl hl.1 rfl (lv_room (Nat.le_of_ble_eq_true rfl)) dX6_feed_17 ⟨Nat.le_of_ble_eq_true rfl, Nat.le_of_ble_eq_true rfl⟩) (fun H7 lo8 Z9 => ?_)
    clear Z hc5
    refine lv_aload_n hx hb dX6_feed_20 rfl (lv_at hl 0 rfl) ?_
    refine lv_iload_n hx hb dX6_feed_21 rfl (lv_at hl 2 rfl) ?_
    obtain ⟨r10, σ11, hc12, hf13⟩ := zBd hf6
    clear hf6
    refine zy_cv (WS1 := zg_W XL ad cA σ11) (TYS1 := zg_T XL cA) Z9 (va_runV (As := [.int a2]) (rest := []) X (c_X6_feedBytes l D V ad cA a2 σ4 r10 σ11 hc12 H7.size) (cwV 1 hts gX6_feed_X6_feedBytes rfl rfl rfl ⟨rfl, zh_X6_feedBytes⟩ ⟨Nat.le_of_ble_eq_true rfl, Nat.le_of_ble_eq_true rfl⟩) (zy_pV (ci := 6) Z9 xL_ok xk_0 rfl rfl) rfl rfl hl.1 rfl (lv_room (Nat.le_of_ble_eq_true rfl)) dX6_feed_22 ⟨Nat.le_of_ble_eq_true rfl, Nat.le_of_ble_eq_true rfl⟩) (fun H14 lo15 Z16 => ?_)
    clear Z9 hc12
    refine lv_aload_n hx hb dX6_feed_25 rfl (lv_at hl 0 rfl) ?_
    refine lv_iload_n hx hb dX6_feed_26 rfl (lv_at hl 3 rfl) ?_
    obtain ⟨r17, σ18, hc19, hf20⟩ := zBd hf13
    clear hf13
    refine zy_cv (WS1 := zg_W XL ad cA σ18) (TYS1 := zg_T XL cA) Z16 (va_runV (As := [.int a3]) (rest := []) X (c_X6_feedBytes l D V ad cA a3 σ11 r17 σ18 hc19 H14.size) (cwV 1 hts gX6_feed_X6_feedBytes rfl rfl rfl ⟨rfl, zh_X6_feedBytes⟩ ⟨Nat.le_of_ble_eq_true rfl, Nat.le_of_ble_eq_true rfl⟩) (zy_pV (ci := 6) Z16 xL_ok xk_0 rfl rfl) rfl rfl hl.1 rfl (lv_room (Nat.le_of_ble_eq_true rfl)) dX6_feed_27 ⟨Nat.le_of_ble_eq_true rfl, Nat.le_of_ble_eq_true rfl⟩) (fun H21 lo22 Z23 => ?_)
    clear Z16 hc19
    refine lv_aload_n hx hb dX6_feed_30 rfl (lv_at hl 0 rfl) ?_
    refine zy_get (v := .int (σ18 0 10)) X Z23 xL_ok xk_0 rfl rfl (fun w h => List.mem_cons_of_mem _ (List.mem_append_right _ h)) 10 rfl (zz_m 1 rfl) rfl dX6_feed_31 ?_
    exact zy_iret X hr hlk Z23 (zEnd hf20) dX6_feed_34
  · have hf24 := zNot hf b1
    clear hf
    refine lv_ldc (v := (-1000000003)) hx hb hown (hts _ (zz_m 2 rfl)) dX6_feed_12 ?_
    exact zy_iret X hr hlk Z (zEnd hf24) dX6_feed_14
def f_X6_fine (a1 : Int32) (σ : zg_S) : Option (Int32 × zg_S) := zbd (f_X6_isStall a1 σ) (fun (r1 : Int32) (σ2 : zg_S) => (if r1 = 0 then some ((-1000000001), σ2) else (if zin a1 9 = true then zbd (f_X6_within (σ2 155 2) 0 13 σ2) (fun (r17 : Int32) (σ18 : zg_S) => (if r17 = 0 then some (σ18 (154 + 2 + (Int32.toNatClampNeg a1)) 2, σ18) else (if zin (σ2 155 2) 14 = true then zbd (f_X0_shades 153 (σ18 (154 + 2 + (Int32.toNatClampNeg a1)) 1) σ18) (fun (r29 : Int32) (σ30 : zg_S) => (if r29 = 0 then zbd (f_X5_workOut (11 + 3 * (Int32.toNatClampNeg (σ2 155 2))) (σ18 (154 + 2 + (Int32.toNatClampNeg a1)) 2) 0 0 σ30) (fun (r38 : Int32) (σ39 : zg_S) => some (r38, σ39)) else zbd (f_X5_workOut (11 + 3 * (Int32.toNatClampNeg (σ2 155 2))) (σ18 (154 + 2 + (Int32.toNatClampNeg a1)) 2) 1 0 σ30) (fun (r46 : Int32) (σ47 : zg_S) => some (r46, σ47)))) else none))) else none)))
set_option maxHeartbeats 4000000 in
set_option maxRecDepth 100000 in
theorem c_X6_fine (l : Launch) (D : va_G) (V : zz_V) (ad : Nat → Nat) (cA : Nat → ClassId) (a1 : Int32)  (σ : zg_S) (r0 : Int32) (σf : zg_S) (hf : f_X6_fine a1 σ = some (r0, σf)) : zM_I l yX6_fine wsX6_fine 3 64 D V XL ad cA [.ref (ad 0), .int a1] σ r0 σf := by
  intro sz
  refine Met.ofW (cc := cX6_fine) (maxL := 4) (ret := (some .int)) (by decide) rfl ?_
  intro p e s m args below meth c s₁ B hml hv
  obtain ⟨rfl, hC⟩ := hv
  have hx := B.exec
  have hb := B.bytes
  have hr := B.returns
  have hts := atoms_spec (ws := wsX6_fine) B.pre
  have hown : s.vm.findClass RX6 = some m.cls := findClass_of_methodNamed B.named
  have hlk := B.notSynchronized
  have X : CallFix p m c cX6_fine 4 s _ wsX6_fine RX6 := ⟨hx, hb, hml, hown, hts⟩
  have Z := zz_enter hC
  generalize va_A (zg_W XL ad cA σ) sz = A at Z ⊢
  have hl := lv_entry ([.ref (ad 0), .int a1]) (n := 4) (Nat.le_of_ble_eq_true rfl)
  rw [lg_entry_eq]
  generalize (lg_sl ([.ref (ad 0), .int a1]) ++ List.replicate (4 - (lg_sl ([.ref (ad 0), .int a1])).length) Slot.unset).toArray = ls at hl ⊢
  have hl : lv_has ls 4 [(0, .ref (ad 0)), (1, .int a1)] := hl
  unfold f_X6_fine at hf
  refine lv_aload_n hx hb dX6_fine_0 rfl (lv_at hl 0 rfl) ?_
  refine lv_iload_n hx hb dX6_fine_1 rfl (lv_at hl 1 rfl) ?_
  obtain ⟨r1, σ2, hc3, hf4⟩ := zBd hf
  clear hf
  refine zy_ci (r0 := r1) (WS1 := zg_W XL ad cA σ2) (TYS1 := zg_T XL cA) Z (va_runV (As := [.int a1]) (rest := []) X (c_X6_isStall l D V ad cA a1 σ r1 σ2 hc3 s.heap.size) (cwV 1 hts gX6_fine_X6_isStall rfl rfl rfl ⟨rfl, zh_X6_isStall⟩ ⟨Nat.le_of_ble_eq_true rfl, Nat.le_of_ble_eq_true rfl⟩) (zy_pV (ci := 6) Z xL_ok xk_0 rfl rfl) rfl rfl hl.1 rfl (lv_room (Nat.le_of_ble_eq_true rfl)) dX6_fine_2 ⟨Nat.le_of_ble_eq_true rfl, Nat.le_of_ble_eq_true rfl⟩) (fun H5 lo6 Z7 => ?_)
  clear Z hc3
  refine lv_if_ne (tgt := 11) hx hb dX6_fine_5 (by decide) (fun b8 => ?_) (fun b8 => ?_)
  · have hf9 := zNot hf4 b8
    clear hf4
    refine lv_aload_n hx hb dX6_fine_11 rfl (lv_at hl 0 rfl) ?_
    refine zy_get (v := .ref (ad 153)) X Z7 xL_ok xk_0 rfl rfl (fun w h => List.mem_cons_of_mem _ (List.mem_append_left _ (List.mem_append_left _ (List.mem_append_left _ (List.mem_append_right _ h))))) 1 rfl (zz_m 2 rfl) rfl dX6_fine_12 ?_
    refine zy_get (v := .ref (ad 154)) X Z7 xL_ok xk_153 rfl rfl (fun w h => List.mem_cons_of_mem _ (List.mem_append_left _ (List.mem_append_left _ (List.mem_append_right _ h)))) 1 rfl (zz_m 3 rfl) rfl dX6_fine_15 ?_
    refine lv_iload_n hx hb dX6_fine_18 rfl (lv_at hl 1 rfl) ?_
    obtain ⟨⟨i10, j11⟩, hf12⟩ := zG hf9
    clear hf9
    refine zy_ald (v := (154 + 2 + (Int32.toNatClampNeg a1))) (C := RX4) X Z7 xL_ok xk_154 rfl rfl xl_154 rfl i10 rfl dX6_fine_19 ?_
    refine lv_astore_n (lv' := [(2, .ref (ad (154 + 2 + (Int32.toNatClampNeg a1)))), (0, .ref (ad 0)), (1, .int a1)]) hx hb dX6_fine_20 rfl hl (by decide) rfl (fun ls14 hl13 => ?_)
    clear hl
    refine lv_aload_n hx hb dX6_fine_21 rfl (lv_at hl13 1 rfl) ?_
    refine zy_get (v := .ref (ad 153)) X Z7 xL_ok xk_0 rfl rfl (fun w h => List.mem_cons_of_mem _ (List.mem_append_left _ (List.mem_append_left _ (List.mem_append_left _ (List.mem_append_right _ h))))) 1 rfl (zz_m 2 rfl) rfl dX6_fine_22 ?_
    refine zy_get (v := .ref (ad 155)) X Z7 xL_ok xk_153 rfl rfl (fun w h => List.mem_cons_of_mem _ (List.mem_append_left _ (List.mem_append_left _ (List.mem_append_right _ h)))) 2 rfl (zz_m 4 rfl) rfl dX6_fine_25 ?_
    refine lv_iconst (v := 2) hx hb dX6_fine_28 (by decide) ?_
    refine zy_ild X Z7 xL_ok xk_155 xl_155 (zz_in 2 3 rfl) dX6_fine_29 ?_
    refine zz_v (v := σ2 155 2) rfl ?_
    refine lv_istore_n (lv' := [(3, .int (σ2 155 2)), (2, .ref (ad (154 + 2 + (Int32.toNatClampNeg a1)))), (0, .ref (ad 0)), (1, .int a1)]) hx hb dX6_fine_30 rfl hl13 (by decide) rfl (fun ls16 hl15 => ?_)
    clear hl13
    refine lv_iload_n hx hb dX6_fine_31 rfl (lv_at hl15 0 rfl) ?_
    refine lv_iconst (v := 0) hx hb dX6_fine_32 (by decide) ?_
    refine lv_bipush (v := 13) hx hb dX6_fine_33 (by decide) ?_
    obtain ⟨r17, σ18, hc19, hf20⟩ := zBd hf12
    clear hf12
    refine zy_ci (r0 := r17) (WS1 := zg_W XL ad cA σ18) (TYS1 := zg_T XL cA) Z7 (va_runS (As := [.int (σ2 155 2), .int 0, .int 13]) (rest := []) X (c_X6_within l D V ad cA (σ2 155 2) 0 13 σ2 r17 σ18 hc19 H5.size) (va_cwS 3 hts gX6_fine_X6_within rfl rfl rfl zh_X6_within ⟨Nat.le_of_ble_eq_true rfl, Nat.le_of_ble_eq_true rfl⟩) (zz_pS Z7) rfl rfl hl15.1 rfl (lv_room (Nat.le_of_ble_eq_true rfl)) dX6_fine_35 ⟨Nat.le_of_ble_eq_true rfl, Nat.le_of_ble_eq_true rfl⟩) (fun H21 lo22 Z23 => ?_)
    clear Z7 hc19
    refine lv_if_ne (tgt := 46) hx hb dX6_fine_38 (by decide) (fun b24 => ?_) (fun b24 => ?_)
    · have hf25 := zNot hf20 b24
      clear hf20
      refine lv_aload_n hx hb dX6_fine_46 rfl (lv_at hl15 2 rfl) ?_
      refine zy_get (v := .ref (ad 1)) X Z23 xL_ok xk_0 rfl rfl (fun w h => List.mem_cons_of_mem _ (List.mem_append_left _ (List.mem_append_left _ (List.mem_append_left _ (List.mem_append_right _ h))))) 0 rfl (zz_m 6 rfl) rfl dX6_fine_47 ?_
      refine lv_iload_n hx hb dX6_fine_50 rfl (lv_at hl15 0 rfl) ?_
      obtain ⟨⟨i26, j27⟩, hf28⟩ := zG hf25
      clear hf25
      refine zy_ald (v := (11 + 3 * (Int32.toNatClampNeg (σ2 155 2)))) (C := RX5) X Z23 xL_ok xk_1 rfl rfl xl_1 rfl i26 rfl dX6_fine_51 ?_
      refine lv_aload_n hx hb dX6_fine_52 rfl (lv_at hl15 1 rfl) ?_
      refine zy_get (v := .int (σ18 (154 + 2 + (Int32.toNatClampNeg a1)) 2)) X Z23 xL_ok (xS xk_154 j11) rfl rfl (fun w h => List.mem_cons_of_mem _ (List.mem_append_left _ (List.mem_append_right _ h))) 2 rfl (zz_m 5 rfl) rfl dX6_fine_53 ?_
      refine lv_aload_n hx hb dX6_fine_56 rfl (lv_at hl15 2 rfl) ?_
      refine zy_get (v := .ref (ad 153)) X Z23 xL_ok xk_0 rfl rfl (fun w h => List.mem_cons_of_mem _ (List.mem_append_left _ (List.mem_append_left _ (List.mem_append_left _ (List.mem_append_right _ h))))) 1 rfl (zz_m 2 rfl) rfl dX6_fine_57 ?_
      refine lv_aload_n hx hb dX6_fine_60 rfl (lv_at hl15 1 rfl) ?_
      refine zy_get (v := .int (σ18 (154 + 2 + (Int32.toNatClampNeg a1)) 1)) X Z23 xL_ok (xS xk_154 j11) rfl rfl (fun w h => List.mem_cons_of_mem _ (List.mem_append_left _ (List.mem_append_right _ h))) 1 rfl (zz_m 7 rfl) rfl dX6_fine_61 ?_
      obtain ⟨r29, σ30, hc31, hf32⟩ := zBd hf28
      clear hf28
      refine zy_ci (r0 := r29) (WS1 := zg_W XL ad cA σ30) (TYS1 := zg_T XL cA) Z23 (va_runV (As := [.int (σ18 (154 + 2 + (Int32.toNatClampNeg a1)) 1)]) (rest := [.int (σ18 (154 + 2 + (Int32.toNatClampNeg a1)) 2), .ref (ad (11 + 3 * (Int32.toNatClampNeg (σ2 155 2))))]) X (c_X0_shades l D V ad cA 153 (σ18 (154 + 2 + (Int32.toNatClampNeg a1)) 1) xk_153 σ18 r29 σ30 hc31 H21.size) (cwV 1 hts gX6_fine_X0_shades rfl rfl rfl ⟨rfl, zh_X0_shades⟩ ⟨Nat.le_of_ble_eq_true rfl, Nat.le_of_ble_eq_true rfl⟩) (zy_pV (ci := 0) Z23 xL_ok xk_153 rfl rfl) rfl rfl hl15.1 rfl (lv_room (Nat.le_of_ble_eq_true rfl)) dX6_fine_64 ⟨Nat.le_of_ble_eq_true rfl, Nat.le_of_ble_eq_true rfl⟩) (fun H33 lo34 Z35 => ?_)
      clear Z23 hc31
      refine lv_if_eq (tgt := 74) hx hb dX6_fine_67 (by decide) (fun b36 => ?_) (fun b36 => ?_)
      · have hf37 := zYes hf32 b36
        clear hf32
        refine lv_iconst (v := 0) hx hb dX6_fine_74 (by decide) ?_
        refine lv_iconst (v := 0) hx hb dX6_fine_75 (by decide) ?_
        obtain ⟨r38, σ39, hc40, hf41⟩ := zBd hf37
        clear hf37
        refine zy_ci (r0 := r38) (WS1 := zg_W XL ad cA σ39) (TYS1 := zg_T XL cA) Z35 (va_runV (As := [.int (σ18 (154 + 2 + (Int32.toNatClampNeg a1)) 2), .int 0, .int 0]) (rest := []) X (c_X5_workOut l D V ad cA (11 + 3 * (Int32.toNatClampNeg (σ2 155 2))) (σ18 (154 + 2 + (Int32.toNatClampNeg a1)) 2) 0 0 (xT j27) σ30 r38 σ39 hc40 H33.size) (cwV 3 hts gX6_fine_X5_workOut rfl rfl rfl ⟨rfl, zh_X5_workOut⟩ ⟨Nat.le_of_ble_eq_true rfl, Nat.le_of_ble_eq_true rfl⟩) (zy_pV (ci := 5) Z35 xL_ok (xT j27) rfl rfl) rfl rfl hl15.1 rfl (lv_room (Nat.le_of_ble_eq_true rfl)) dX6_fine_76 ⟨Nat.le_of_ble_eq_true rfl, Nat.le_of_ble_eq_true rfl⟩) (fun H42 lo43 Z44 => ?_)
        clear Z35 hc40
        exact zy_iret X hr hlk Z44 (zEnd hf41) dX6_fine_79
      · have hf45 := zNot hf32 b36
        clear hf32
        refine lv_iconst (v := 1) hx hb dX6_fine_70 (by decide) ?_
        refine lv_goto (tgt := 75) hx hb dX6_fine_71 (by decide) ?_
        refine lv_iconst (v := 0) hx hb dX6_fine_75 (by decide) ?_
        obtain ⟨r46, σ47, hc48, hf49⟩ := zBd hf45
        clear hf45
        refine zy_ci (r0 := r46) (WS1 := zg_W XL ad cA σ47) (TYS1 := zg_T XL cA) Z35 (va_runV (As := [.int (σ18 (154 + 2 + (Int32.toNatClampNeg a1)) 2), .int 1, .int 0]) (rest := []) X (c_X5_workOut l D V ad cA (11 + 3 * (Int32.toNatClampNeg (σ2 155 2))) (σ18 (154 + 2 + (Int32.toNatClampNeg a1)) 2) 1 0 (xT j27) σ30 r46 σ47 hc48 H33.size) (cwV 3 hts gX6_fine_X5_workOut rfl rfl rfl ⟨rfl, zh_X5_workOut⟩ ⟨Nat.le_of_ble_eq_true rfl, Nat.le_of_ble_eq_true rfl⟩) (zy_pV (ci := 5) Z35 xL_ok (xT j27) rfl rfl) rfl rfl hl15.1 rfl (lv_room (Nat.le_of_ble_eq_true rfl)) dX6_fine_76 ⟨Nat.le_of_ble_eq_true rfl, Nat.le_of_ble_eq_true rfl⟩) (fun H50 lo51 Z52 => ?_)
        clear Z35 hc48
        exact zy_iret X hr hlk Z52 (zEnd hf49) dX6_fine_79
    · have hf53 := zYes hf20 b24
      clear hf20
      refine lv_aload_n hx hb dX6_fine_41 rfl (lv_at hl15 1 rfl) ?_
      refine zy_get (v := .int (σ18 (154 + 2 + (Int32.toNatClampNeg a1)) 2)) X Z23 xL_ok (xS xk_154 j11) rfl rfl (fun w h => List.mem_cons_of_mem _ (List.mem_append_left _ (List.mem_append_right _ h))) 2 rfl (zz_m 5 rfl) rfl dX6_fine_42 ?_
      exact zy_iret X hr hlk Z23 (zEnd hf53) dX6_fine_45
  · have hf54 := zYes hf4 b8
    clear hf4
    refine lv_ldc (v := (-1000000001)) hx hb hown (hts _ (zz_m 1 rfl)) dX6_fine_8 ?_
    exact zy_iret X hr hlk Z7 (zEnd hf54) dX6_fine_10
def f_X6_goods (a1 : Int32) (a2 : Int32) (σ : zg_S) : Option (Int32 × zg_S) := zbd (f_X6_isStall a1 σ) (fun (r1 : Int32) (σ2 : zg_S) => (if r1 = 0 then some ((-1000000001), σ2) else zbd (f_X6_within a2 0 100 σ2) (fun (r11 : Int32) (σ12 : zg_S) => (if r11 = 0 then some ((-1000000001), σ12) else zbd (f_X0_takeOver 165 153 σ12) (fun (r20 : Int32) (σ21 : zg_S) => zbd (f_X6_thinkOn a2 σ21) (fun (r27 : Int32) (σ28 : zg_S) => (if zin a1 9 = true then some (σ28 (166 + 2 + (Int32.toNatClampNeg a1)) 2, σ28) else none)))))))
set_option maxHeartbeats 4000000 in
set_option maxRecDepth 100000 in
theorem c_X6_goods (l : Launch) (D : va_G) (V : zz_V) (ad : Nat → Nat) (cA : Nat → ClassId) (a1 : Int32) (a2 : Int32)  (σ : zg_S) (r0 : Int32) (σf : zg_S) (hf : f_X6_goods a1 a2 σ = some (r0, σf)) : zM_I l yX6_goods wsX6_goods 7 159 D V XL ad cA [.ref (ad 0), .int a1, .int a2] σ r0 σf := by
  intro sz
  refine Met.ofW (cc := cX6_goods) (maxL := 3) (ret := (some .int)) (by decide) rfl ?_
  intro p e s m args below meth c s₁ B hml hv
  obtain ⟨rfl, hC⟩ := hv
  have hx := B.exec
  have hb := B.bytes
  have hr := B.returns
  have hts := atoms_spec (ws := wsX6_goods) B.pre
  have hown : s.vm.findClass RX6 = some m.cls := findClass_of_methodNamed B.named
  have hlk := B.notSynchronized
  have X : CallFix p m c cX6_goods 3 s _ wsX6_goods RX6 := ⟨hx, hb, hml, hown, hts⟩
  have Z := zz_enter hC
  generalize va_A (zg_W XL ad cA σ) sz = A at Z ⊢
  have hl := lv_entry ([.ref (ad 0), .int a1, .int a2]) (n := 3) (Nat.le_of_ble_eq_true rfl)
  rw [lg_entry_eq]
  generalize (lg_sl ([.ref (ad 0), .int a1, .int a2]) ++ List.replicate (3 - (lg_sl ([.ref (ad 0), .int a1, .int a2])).length) Slot.unset).toArray = ls at hl ⊢
  have hl : lv_has ls 3 [(0, .ref (ad 0)), (1, .int a1), (2, .int a2)] := hl
  unfold f_X6_goods at hf
  refine lv_aload_n hx hb dX6_goods_0 rfl (lv_at hl 0 rfl) ?_
  refine lv_iload_n hx hb dX6_goods_1 rfl (lv_at hl 1 rfl) ?_
  obtain ⟨r1, σ2, hc3, hf4⟩ := zBd hf
  clear hf
  refine zy_ci (r0 := r1) (WS1 := zg_W XL ad cA σ2) (TYS1 := zg_T XL cA) Z (va_runV (As := [.int a1]) (rest := []) X (c_X6_isStall l D V ad cA a1 σ r1 σ2 hc3 s.heap.size) (cwV 1 hts gX6_goods_X6_isStall rfl rfl rfl ⟨rfl, zh_X6_isStall⟩ ⟨Nat.le_of_ble_eq_true rfl, Nat.le_of_ble_eq_true rfl⟩) (zy_pV (ci := 6) Z xL_ok xk_0 rfl rfl) rfl rfl hl.1 rfl (lv_room (Nat.le_of_ble_eq_true rfl)) dX6_goods_2 ⟨Nat.le_of_ble_eq_true rfl, Nat.le_of_ble_eq_true rfl⟩) (fun H5 lo6 Z7 => ?_)
  clear Z hc3
  refine lv_if_eq (tgt := 18) hx hb dX6_goods_5 (by decide) (fun b8 => ?_) (fun b8 => ?_)
  · have hf9 := zYes hf4 b8
    clear hf4
    refine lv_ldc (v := (-1000000001)) hx hb hown (hts _ (zz_m 1 rfl)) dX6_goods_18 ?_
    exact zy_iret X hr hlk Z7 (zEnd hf9) dX6_goods_20
  · have hf10 := zNot hf4 b8
    clear hf4
    refine lv_iload_n hx hb dX6_goods_8 rfl (lv_at hl 2 rfl) ?_
    refine lv_iconst (v := 0) hx hb dX6_goods_9 (by decide) ?_
    refine lv_bipush (v := 100) hx hb dX6_goods_10 (by decide) ?_
    obtain ⟨r11, σ12, hc13, hf14⟩ := zBd hf10
    clear hf10
    refine zy_ci (r0 := r11) (WS1 := zg_W XL ad cA σ12) (TYS1 := zg_T XL cA) Z7 (va_runS (As := [.int a2, .int 0, .int 100]) (rest := []) X (c_X6_within l D V ad cA a2 0 100 σ2 r11 σ12 hc13 H5.size) (va_cwS 3 hts gX6_goods_X6_within rfl rfl rfl zh_X6_within ⟨Nat.le_of_ble_eq_true rfl, Nat.le_of_ble_eq_true rfl⟩) (zz_pS Z7) rfl rfl hl.1 rfl (lv_room (Nat.le_of_ble_eq_true rfl)) dX6_goods_12 ⟨Nat.le_of_ble_eq_true rfl, Nat.le_of_ble_eq_true rfl⟩) (fun H15 lo16 Z17 => ?_)
    clear Z7 hc13
    refine lv_if_ne (tgt := 21) hx hb dX6_goods_15 (by decide) (fun b18 => ?_) (fun b18 => ?_)
    · have hf19 := zNot hf14 b18
      clear hf14
      refine lv_aload_n hx hb dX6_goods_21 rfl (lv_at hl 0 rfl) ?_
      refine zy_get (v := .ref (ad 165)) X Z17 xL_ok xk_0 rfl rfl (fun w h => List.mem_cons_of_mem _ (List.mem_append_left _ (List.mem_append_left _ (List.mem_append_left _ (List.mem_append_right _ h))))) 2 rfl (zz_m 2 rfl) rfl dX6_goods_22 ?_
      refine lv_aload_n hx hb dX6_goods_25 rfl (lv_at hl 0 rfl) ?_
      refine zy_get (v := .ref (ad 153)) X Z17 xL_ok xk_0 rfl rfl (fun w h => List.mem_cons_of_mem _ (List.mem_append_left _ (List.mem_append_left _ (List.mem_append_left _ (List.mem_append_right _ h))))) 1 rfl (zz_m 3 rfl) rfl dX6_goods_26 ?_
      obtain ⟨r20, σ21, hc22, hf23⟩ := zBd hf19
      clear hf19
      refine zy_cv (WS1 := zg_W XL ad cA σ21) (TYS1 := zg_T XL cA) Z17 (va_runV (As := [.ref (ad 153)]) (rest := []) X (c_X0_takeOver l D V ad cA 165 153 xk_165 xk_153 σ12 r20 σ21 hc22 H15.size) (cwV 1 hts gX6_goods_X0_takeOver rfl rfl rfl ⟨rfl, zh_X0_takeOver⟩ ⟨Nat.le_of_ble_eq_true rfl, Nat.le_of_ble_eq_true rfl⟩) (zy_pV (ci := 0) Z17 xL_ok xk_165 rfl rfl) rfl rfl hl.1 rfl (lv_room (Nat.le_of_ble_eq_true rfl)) dX6_goods_29 ⟨Nat.le_of_ble_eq_true rfl, Nat.le_of_ble_eq_true rfl⟩) (fun H24 lo25 Z26 => ?_)
      clear Z17 hc22
      refine lv_aload_n hx hb dX6_goods_32 rfl (lv_at hl 0 rfl) ?_
      refine lv_iload_n hx hb dX6_goods_33 rfl (lv_at hl 2 rfl) ?_
      obtain ⟨r27, σ28, hc29, hf30⟩ := zBd hf23
      clear hf23
      refine zy_cv (WS1 := zg_W XL ad cA σ28) (TYS1 := zg_T XL cA) Z26 (va_runV (As := [.int a2]) (rest := []) X (c_X6_thinkOn l D V ad cA a2 σ21 r27 σ28 hc29 H24.size) (cwV 1 hts gX6_goods_X6_thinkOn rfl rfl rfl ⟨rfl, zh_X6_thinkOn⟩ ⟨Nat.le_of_ble_eq_true rfl, Nat.le_of_ble_eq_true rfl⟩) (zy_pV (ci := 6) Z26 xL_ok xk_0 rfl rfl) rfl rfl hl.1 rfl (lv_room (Nat.le_of_ble_eq_true rfl)) dX6_goods_34 ⟨Nat.le_of_ble_eq_true rfl, Nat.le_of_ble_eq_true rfl⟩) (fun H31 lo32 Z33 => ?_)
      clear Z26 hc29
      refine lv_aload_n hx hb dX6_goods_37 rfl (lv_at hl 0 rfl) ?_
      refine zy_get (v := .ref (ad 165)) X Z33 xL_ok xk_0 rfl rfl (fun w h => List.mem_cons_of_mem _ (List.mem_append_left _ (List.mem_append_left _ (List.mem_append_left _ (List.mem_append_right _ h))))) 2 rfl (zz_m 2 rfl) rfl dX6_goods_38 ?_
      refine zy_get (v := .ref (ad 166)) X Z33 xL_ok xk_165 rfl rfl (fun w h => List.mem_cons_of_mem _ (List.mem_append_left _ (List.mem_append_left _ (List.mem_append_right _ h)))) 1 rfl (zz_m 4 rfl) rfl dX6_goods_41 ?_
      refine lv_iload_n hx hb dX6_goods_44 rfl (lv_at hl 1 rfl) ?_
      obtain ⟨⟨i34, j35⟩, hf36⟩ := zG hf30
      clear hf30
      refine zy_ald (v := (166 + 2 + (Int32.toNatClampNeg a1))) (C := RX4) X Z33 xL_ok xk_166 rfl rfl xl_166 rfl i34 rfl dX6_goods_45 ?_
      refine zy_get (v := .int (σ28 (166 + 2 + (Int32.toNatClampNeg a1)) 2)) X Z33 xL_ok (xS xk_166 j35) rfl rfl (fun w h => List.mem_cons_of_mem _ (List.mem_append_left _ (List.mem_append_right _ h))) 2 rfl (zz_m 5 rfl) rfl dX6_goods_46 ?_
      exact zy_iret X hr hlk Z33 (zEnd hf36) dX6_goods_49
    · have hf37 := zYes hf14 b18
      clear hf14
      refine lv_ldc (v := (-1000000001)) hx hb hown (hts _ (zz_m 1 rfl)) dX6_goods_18 ?_
      exact zy_iret X hr hlk Z17 (zEnd hf37) dX6_goods_20
def B_X6_hours_40 (a1 : Int32) (rec40_ : Int32 → Int32 → Int32 → zg_S → Option (Int32 × zg_S)) (x2 : Int32) (x3 : Int32) (x4 : Int32) (σ : zg_S) : Option (Int32 × zg_S) := (if x3 ≤ x4 then some ((σ 153 11) - x2, σ) else zbd (f_X0_hauling 153 σ) (fun (r4 : Int32) (σ5 : zg_S) => zbd (f_X0_passHour 153 r4 σ5) (fun (r11 : Int32) (σ12 : zg_S) => rec40_ x2 x3 (x4 + 1) σ12)))
def L_X6_hours_40 (a1 : Int32) : Nat → Int32 → Int32 → Int32 → zg_S → Option (Int32 × zg_S) := zfix (fun _ _ _ _ => none) (B_X6_hours_40 a1)
def f_X6_hours (a1 : Int32) (σ : zg_S) : Option (Int32 × zg_S) := zbd (f_X6_within a1 1 100 σ) (fun (r20 : Int32) (σ21 : zg_S) => (if r20 = 0 then some ((-1000000001), σ21) else zlet (if (9999 - (σ21 153 7)) < a1 then 9999 - (σ21 153 7) else a1) (fun (y31 : Int32) => L_X6_hours_40 a1 zfu (σ21 153 11) y31 0 σ21)))
set_option maxHeartbeats 4000000 in
set_option maxRecDepth 100000 in
theorem c_X6_hours (l : Launch) (D : va_G) (V : zz_V) (ad : Nat → Nat) (cA : Nat → ClassId) (a1 : Int32)  (σ : zg_S) (r0 : Int32) (σf : zg_S) (hf : f_X6_hours a1 σ = some (r0, σf)) : zM_I l yX6_hours wsX6_hours 6 137 D V XL ad cA [.ref (ad 0), .int a1] σ r0 σf := by
  intro sz
  refine Met.ofW (cc := cX6_hours) (maxL := 5) (ret := (some .int)) (by decide) rfl ?_
  intro p e s m args below meth c s₁ B hml hv
  obtain ⟨rfl, hC⟩ := hv
  have hx := B.exec
  have hb := B.bytes
  have hr := B.returns
  have hts := atoms_spec (ws := wsX6_hours) B.pre
  have hown : s.vm.findClass RX6 = some m.cls := findClass_of_methodNamed B.named
  have hlk := B.notSynchronized
  have X : CallFix p m c cX6_hours 5 s _ wsX6_hours RX6 := ⟨hx, hb, hml, hown, hts⟩
  have Z := zz_enter hC
  generalize va_A (zg_W XL ad cA σ) sz = A at Z ⊢
  have hl := lv_entry ([.ref (ad 0), .int a1]) (n := 5) (Nat.le_of_ble_eq_true rfl)
  rw [lg_entry_eq]
  generalize (lg_sl ([.ref (ad 0), .int a1]) ++ List.replicate (5 - (lg_sl ([.ref (ad 0), .int a1])).length) Slot.unset).toArray = ls at hl ⊢
  have hl : lv_has ls 5 [(0, .ref (ad 0)), (1, .int a1)] := hl
  unfold f_X6_hours at hf
  have b40_ : ∀ (k40_ : Nat) (x2 : Int32) (x3 : Int32) (x4 : Int32) (σ : zg_S), L_X6_hours_40 a1 k40_ x2 x3 x4 σ = some (r0, σf) → ∀ (H : Heap) (locs : List Loc) (ls : Array Slot), zz_S D V A s (zg_W XL ad cA σ) (zg_T XL cA) H locs → lv_has ls 5 [(0, .ref (ad 0)), (2, .int x2), (3, .int x3), (4, .int x4)] → W p l e (headSpec wsX6_hours { frames := 6, cells := 0, slots := 0, locals := 137 }).room s m (List.toArray [.ref (ad 0), .int a1]) below meth c H locs 0 0 (MQ below (va_Qi (fun r (_ : Unit) => r = r0) (fun _ t => zz_B D A (zg_W XL ad cA σf) (zg_T XL cA) t) A) (List.toArray [.ref (ad 0), .int a1]) s 0 0 A) (F0 m 40 ls []) := by
    intro k40_
    induction k40_ with
    | zero =>
        intro x2 x3 x4 σ hf40_ H40_ locs40_ ls40_ Z40_ hl40_
        exact zNone hf40_
    | succ k40_ ih40_ =>
        intro x2 x3 x4 σ hf40_ H40_ locs40_ ls40_ Z40_ hl40_
        replace hf40_ : B_X6_hours_40 a1 (L_X6_hours_40 a1 k40_) x2 x3 x4 σ = some (r0, σf) := hf40_
        unfold B_X6_hours_40 at hf40_
        refine lv_iload hx hb dX6_hours_40 (lv_at hl40_ 3 rfl) ?_
        refine lv_iload_n hx hb dX6_hours_42 rfl (lv_at hl40_ 2 rfl) ?_
        refine lv_icmp_ge (tgt := 66) hx hb dX6_hours_43 (by decide) (fun b1 => ?_) (fun b1 => ?_)
        · have hf2 := zYes hf40_ b1
          clear hf40_
          refine lv_aload_n hx hb dX6_hours_66 rfl (lv_at hl40_ 0 rfl) ?_
          refine zy_get (v := .ref (ad 153)) X Z40_ xL_ok xk_0 rfl rfl (fun w h => List.mem_cons_of_mem _ (List.mem_append_left _ (List.mem_append_left _ (List.mem_append_left _ (List.mem_append_right _ h))))) 1 rfl (zz_m 2 rfl) rfl dX6_hours_67 ?_
          refine zy_get (v := .int (σ 153 11)) X Z40_ xL_ok xk_153 rfl rfl (fun w h => List.mem_cons_of_mem _ (List.mem_append_left _ (List.mem_append_left _ (List.mem_append_right _ h)))) 11 rfl (zz_m 3 rfl) rfl dX6_hours_70 ?_
          refine lv_iload_n hx hb dX6_hours_73 rfl (lv_at hl40_ 1 rfl) ?_
          refine lv_isub hx hb dX6_hours_74 ?_
          exact zy_iret X hr hlk Z40_ (zEnd hf2) dX6_hours_75
        · have hf3 := zNot hf40_ b1
          clear hf40_
          refine lv_aload_n hx hb dX6_hours_46 rfl (lv_at hl40_ 0 rfl) ?_
          refine zy_get (v := .ref (ad 153)) X Z40_ xL_ok xk_0 rfl rfl (fun w h => List.mem_cons_of_mem _ (List.mem_append_left _ (List.mem_append_left _ (List.mem_append_left _ (List.mem_append_right _ h))))) 1 rfl (zz_m 2 rfl) rfl dX6_hours_47 ?_
          refine lv_aload_n hx hb dX6_hours_50 rfl (lv_at hl40_ 0 rfl) ?_
          refine zy_get (v := .ref (ad 153)) X Z40_ xL_ok xk_0 rfl rfl (fun w h => List.mem_cons_of_mem _ (List.mem_append_left _ (List.mem_append_left _ (List.mem_append_left _ (List.mem_append_right _ h))))) 1 rfl (zz_m 2 rfl) rfl dX6_hours_51 ?_
          obtain ⟨r4, σ5, hc6, hf7⟩ := zBd hf3
          clear hf3
          refine zy_ci (r0 := r4) (WS1 := zg_W XL ad cA σ5) (TYS1 := zg_T XL cA) Z40_ (va_runV (As := []) (rest := [.ref (ad 153)]) X (c_X0_hauling l D V ad cA 153 xk_153 σ r4 σ5 hc6 H40_.size) (cwV 0 hts gX6_hours_X0_hauling rfl rfl rfl ⟨rfl, zh_X0_hauling⟩ ⟨Nat.le_of_ble_eq_true rfl, Nat.le_of_ble_eq_true rfl⟩) (zy_pV (ci := 0) Z40_ xL_ok xk_153 rfl rfl) rfl rfl hl40_.1 rfl (lv_room (Nat.le_of_ble_eq_true rfl)) dX6_hours_54 ⟨Nat.le_of_ble_eq_true rfl, Nat.le_of_ble_eq_true rfl⟩) (fun H8 lo9 Z10 => ?_)
          clear Z40_ hc6
          obtain ⟨r11, σ12, hc13, hf14⟩ := zBd hf7
          clear hf7
          refine zy_cv (WS1 := zg_W XL ad cA σ12) (TYS1 := zg_T XL cA) Z10 (va_runV (As := [.int r4]) (rest := []) X (c_X0_passHour l D V ad cA 153 r4 xk_153 σ5 r11 σ12 hc13 H8.size) (cwV 1 hts gX6_hours_X0_passHour rfl rfl rfl ⟨rfl, zh_X0_passHour⟩ ⟨Nat.le_of_ble_eq_true rfl, Nat.le_of_ble_eq_true rfl⟩) (zy_pV (ci := 0) Z10 xL_ok xk_153 rfl rfl) rfl rfl hl40_.1 rfl (lv_room (Nat.le_of_ble_eq_true rfl)) dX6_hours_57 ⟨Nat.le_of_ble_eq_true rfl, Nat.le_of_ble_eq_true rfl⟩) (fun H15 lo16 Z17 => ?_)
          clear Z10 hc13
          refine lv_iinc (v := (x4 + 1)) (lv' := [(4, .int (x4 + 1)), (0, .ref (ad 0)), (2, .int x2), (3, .int x3)]) hx hb dX6_hours_60 hl40_ (k := 3) rfl rfl (by decide) rfl (fun ls19 hl18 => ?_)
          clear hl40_
          refine lv_goto (tgt := 40) hx hb dX6_hours_63 (by decide) ?_
          exact ih40_ x2 x3 (x4 + 1) σ12 hf14 _ _ _ Z17 (lv_sub hl18 [1, 2, 3, 0] rfl)
  refine lv_iload_n hx hb dX6_hours_0 rfl (lv_at hl 1 rfl) ?_
  refine lv_iconst (v := 1) hx hb dX6_hours_1 (by decide) ?_
  refine lv_bipush (v := 100) hx hb dX6_hours_2 (by decide) ?_
  obtain ⟨r20, σ21, hc22, hf23⟩ := zBd hf
  clear hf
  refine zy_ci (r0 := r20) (WS1 := zg_W XL ad cA σ21) (TYS1 := zg_T XL cA) Z (va_runS (As := [.int a1, .int 1, .int 100]) (rest := []) X (c_X6_within l D V ad cA a1 1 100 σ r20 σ21 hc22 s.heap.size) (va_cwS 3 hts gX6_hours_X6_within rfl rfl rfl zh_X6_within ⟨Nat.le_of_ble_eq_true rfl, Nat.le_of_ble_eq_true rfl⟩) (zz_pS Z) rfl rfl hl.1 rfl (lv_room (Nat.le_of_ble_eq_true rfl)) dX6_hours_4 ⟨Nat.le_of_ble_eq_true rfl, Nat.le_of_ble_eq_true rfl⟩) (fun H24 lo25 Z26 => ?_)
  clear Z hc22
  refine lv_if_ne (tgt := 13) hx hb dX6_hours_7 (by decide) (fun b27 => ?_) (fun b27 => ?_)
  · have hf28 := zNot hf23 b27
    clear hf23
    refine lv_aload_n hx hb dX6_hours_13 rfl (lv_at hl 0 rfl) ?_
    refine zy_get (v := .ref (ad 153)) X Z26 xL_ok xk_0 rfl rfl (fun w h => List.mem_cons_of_mem _ (List.mem_append_left _ (List.mem_append_left _ (List.mem_append_left _ (List.mem_append_right _ h))))) 1 rfl (zz_m 2 rfl) rfl dX6_hours_14 ?_
    refine zy_get (v := .int (σ21 153 11)) X Z26 xL_ok xk_153 rfl rfl (fun w h => List.mem_cons_of_mem _ (List.mem_append_left _ (List.mem_append_left _ (List.mem_append_right _ h)))) 11 rfl (zz_m 3 rfl) rfl dX6_hours_17 ?_
    refine lv_istore_n (lv' := [(2, .int (σ21 153 11)), (0, .ref (ad 0)), (1, .int a1)]) hx hb dX6_hours_20 rfl hl (by decide) rfl (fun ls30 hl29 => ?_)
    clear hl
    refine lv_iload_n hx hb dX6_hours_21 rfl (lv_at hl29 2 rfl) ?_
    refine lv_sipush (v := 9999) hx hb dX6_hours_22 (by decide) ?_
    refine lv_aload_n hx hb dX6_hours_25 rfl (lv_at hl29 1 rfl) ?_
    refine zy_get (v := .ref (ad 153)) X Z26 xL_ok xk_0 rfl rfl (fun w h => List.mem_cons_of_mem _ (List.mem_append_left _ (List.mem_append_left _ (List.mem_append_left _ (List.mem_append_right _ h))))) 1 rfl (zz_m 2 rfl) rfl dX6_hours_26 ?_
    refine zy_get (v := .int (σ21 153 7)) X Z26 xL_ok xk_153 rfl rfl (fun w h => List.mem_cons_of_mem _ (List.mem_append_left _ (List.mem_append_left _ (List.mem_append_right _ h)))) 7 rfl (zz_m 4 rfl) rfl dX6_hours_29 ?_
    refine lv_isub hx hb dX6_hours_32 ?_
    refine va_mmin hx hb (by rw [hml]; exact hl29.1.symm) hown (hts _ (zz_m 5 rfl)) (hts _ (zz_m 6 rfl)) (hts _ (zz_m 7 rfl)) (hts _ (zz_m 8 rfl)) (Nat.le_of_ble_eq_true rfl) (Nat.le_of_ble_eq_true rfl) (Nat.le_of_ble_eq_true rfl) (Nat.le_of_ble_eq_true rfl) dX6_hours_33 ?_
    obtain ⟨y31, ey32, hf33⟩ := zLet hf28
    clear hf28
    refine zz_v (v := y31) ey32.symm ?_
    clear ey32
    refine lv_istore_n (lv' := [(3, .int y31), (2, .int (σ21 153 11)), (0, .ref (ad 0)), (1, .int a1)]) hx hb dX6_hours_36 rfl hl29 (by decide) rfl (fun ls35 hl34 => ?_)
    clear hl29
    refine lv_iconst (v := 0) hx hb dX6_hours_37 (by decide) ?_
    refine lv_istore (lv' := [(4, .int 0), (3, .int y31), (2, .int (σ21 153 11)), (0, .ref (ad 0)), (1, .int a1)]) hx hb dX6_hours_38 hl34 (by decide) rfl (fun ls37 hl36 => ?_)
    clear hl34
    exact b40_ zfu (σ21 153 11) y31 0 σ21 hf33 _ _ _ Z26 (lv_sub hl36 [3, 2, 1, 0] rfl)
  · have hf38 := zYes hf23 b27
    clear hf23
    refine lv_ldc (v := (-1000000001)) hx hb hown (hts _ (zz_m 1 rfl)) dX6_hours_10 ?_
    exact zy_iret X hr hlk Z26 (zEnd hf38) dX6_hours_12
def f_X6_item (a1 : Int32) (a2 : Int32) (σ : zg_S) : Option (Int32 × zg_S) := zbd (f_X6_isSlot a1 σ) (fun (r1 : Int32) (σ2 : zg_S) => (if r1 = 0 then some ((-1000000001), σ2) else (if zin a1 5 = true then zbd (f_X3_refuses (61 + 4 * (Int32.toNatClampNeg a1)) 2 σ2) (fun (r13 : Int32) (σ14 : zg_S) => (if r13 = 0 then zbd (f_X2_hasPlace ((61 + 4 * (Int32.toNatClampNeg a1)) + 2) a2 σ14) (fun (r26 : Int32) (σ27 : zg_S) => (if r26 = 0 then some ((-1000000013), σ27) else zbd (f_X2_hasNumber ((61 + 4 * (Int32.toNatClampNeg a1)) + 2) a2 σ27) (fun (r35 : Int32) (σ36 : zg_S) => (if r35 = 0 then some ((-1000000012), σ36) else (if zin a2 24 = true then some (σ36 (((61 + 4 * (Int32.toNatClampNeg a1)) + 2) + 1) (Int32.toNatClampNeg a2), σ36) else none))))) else some (r13, σ14))) else none)))
set_option maxHeartbeats 4000000 in
set_option maxRecDepth 100000 in
theorem c_X6_item (l : Launch) (D : va_G) (V : zz_V) (ad : Nat → Nat) (cA : Nat → ClassId) (a1 : Int32) (a2 : Int32)  (σ : zg_S) (r0 : Int32) (σf : zg_S) (hf : f_X6_item a1 a2 σ = some (r0, σf)) : zM_I l yX6_item wsX6_item 3 64 D V XL ad cA [.ref (ad 0), .int a1, .int a2] σ r0 σf := by
  intro sz
  refine Met.ofW (cc := cX6_item) (maxL := 5) (ret := (some .int)) (by decide) rfl ?_
  intro p e s m args below meth c s₁ B hml hv
  obtain ⟨rfl, hC⟩ := hv
  have hx := B.exec
  have hb := B.bytes
  have hr := B.returns
  have hts := atoms_spec (ws := wsX6_item) B.pre
  have hown : s.vm.findClass RX6 = some m.cls := findClass_of_methodNamed B.named
  have hlk := B.notSynchronized
  have X : CallFix p m c cX6_item 5 s _ wsX6_item RX6 := ⟨hx, hb, hml, hown, hts⟩
  have Z := zz_enter hC
  generalize va_A (zg_W XL ad cA σ) sz = A at Z ⊢
  have hl := lv_entry ([.ref (ad 0), .int a1, .int a2]) (n := 5) (Nat.le_of_ble_eq_true rfl)
  rw [lg_entry_eq]
  generalize (lg_sl ([.ref (ad 0), .int a1, .int a2]) ++ List.replicate (5 - (lg_sl ([.ref (ad 0), .int a1, .int a2])).length) Slot.unset).toArray = ls at hl ⊢
  have hl : lv_has ls 5 [(0, .ref (ad 0)), (1, .int a1), (2, .int a2)] := hl
  unfold f_X6_item at hf
  refine lv_iload_n hx hb dX6_item_0 rfl (lv_at hl 1 rfl) ?_
  obtain ⟨r1, σ2, hc3, hf4⟩ := zBd hf
  clear hf
  refine zy_ci (r0 := r1) (WS1 := zg_W XL ad cA σ2) (TYS1 := zg_T XL cA) Z (va_runS (As := [.int a1]) (rest := []) X (c_X6_isSlot l D V ad cA a1 σ r1 σ2 hc3 s.heap.size) (va_cwS 1 hts gX6_item_X6_isSlot rfl rfl rfl zh_X6_isSlot ⟨Nat.le_of_ble_eq_true rfl, Nat.le_of_ble_eq_true rfl⟩) (zz_pS Z) rfl rfl hl.1 rfl (lv_room (Nat.le_of_ble_eq_true rfl)) dX6_item_1 ⟨Nat.le_of_ble_eq_true rfl, Nat.le_of_ble_eq_true rfl⟩) (fun H5 lo6 Z7 => ?_)
  clear Z hc3
  refine lv_if_ne (tgt := 10) hx hb dX6_item_4 (by decide) (fun b8 => ?_) (fun b8 => ?_)
  · have hf9 := zNot hf4 b8
    clear hf4
    refine lv_aload_n hx hb dX6_item_10 rfl (lv_at hl 0 rfl) ?_
    refine zy_get (v := .ref (ad 4)) X Z7 xL_ok xk_0 rfl rfl (fun w h => List.mem_cons_of_mem _ (List.mem_append_left _ (List.mem_append_left _ (List.mem_append_right _ h)))) 8 rfl (zz_m 2 rfl) rfl dX6_item_11 ?_
    refine lv_iload_n hx hb dX6_item_14 rfl (lv_at hl 1 rfl) ?_
    obtain ⟨⟨i10, j11⟩, hf12⟩ := zG hf9
    clear hf9
    refine zy_ald (v := (61 + 4 * (Int32.toNatClampNeg a1))) (C := RX3) X Z7 xL_ok xk_4 rfl rfl xl_4 rfl i10 rfl dX6_item_15 ?_
    refine lv_iconst (v := 2) hx hb dX6_item_16 (by decide) ?_
    obtain ⟨r13, σ14, hc15, hf16⟩ := zBd hf12
    clear hf12
    refine zy_ci (r0 := r13) (WS1 := zg_W XL ad cA σ14) (TYS1 := zg_T XL cA) Z7 (va_runV (As := [.int 2]) (rest := []) X (c_X3_refuses l D V ad cA (61 + 4 * (Int32.toNatClampNeg a1)) 2 (xO j11) σ2 r13 σ14 hc15 H5.size) (cwV 1 hts gX6_item_X3_refuses rfl rfl rfl ⟨rfl, zh_X3_refuses⟩ ⟨Nat.le_of_ble_eq_true rfl, Nat.le_of_ble_eq_true rfl⟩) (zy_pV (ci := 3) Z7 xL_ok (xO j11) rfl rfl) rfl rfl hl.1 rfl (lv_room (Nat.le_of_ble_eq_true rfl)) dX6_item_17 ⟨Nat.le_of_ble_eq_true rfl, Nat.le_of_ble_eq_true rfl⟩) (fun H17 lo18 Z19 => ?_)
    clear Z7 hc15
    refine lv_istore_n (lv' := [(3, .int r13), (0, .ref (ad 0)), (1, .int a1), (2, .int a2)]) hx hb dX6_item_20 rfl hl (by decide) rfl (fun ls21 hl20 => ?_)
    clear hl
    refine lv_iload_n hx hb dX6_item_21 rfl (lv_at hl20 0 rfl) ?_
    refine lv_if_eq (tgt := 27) hx hb dX6_item_22 (by decide) (fun b22 => ?_) (fun b22 => ?_)
    · have hf23 := zYes hf16 b22
      clear hf16
      refine lv_aload_n hx hb dX6_item_27 rfl (lv_at hl20 1 rfl) ?_
      refine zy_get (v := .ref (ad 4)) X Z19 xL_ok xk_0 rfl rfl (fun w h => List.mem_cons_of_mem _ (List.mem_append_left _ (List.mem_append_left _ (List.mem_append_right _ h)))) 8 rfl (zz_m 2 rfl) rfl dX6_item_28 ?_
      refine lv_iload_n hx hb dX6_item_31 rfl (lv_at hl20 2 rfl) ?_
      refine zy_ald (v := (61 + 4 * (Int32.toNatClampNeg a1))) (C := RX3) X Z19 xL_ok xk_4 rfl rfl xl_4 rfl i10 rfl dX6_item_32 ?_
      refine zy_get (v := .ref (ad ((61 + 4 * (Int32.toNatClampNeg a1)) + 2))) X Z19 xL_ok (xO j11) rfl rfl (fun w h => List.mem_cons_of_mem _ (List.mem_append_left _ (List.mem_append_right _ h))) 3 rfl (zz_m 3 rfl) rfl dX6_item_33 ?_
      refine lv_astore (lv' := [(4, .ref (ad ((61 + 4 * (Int32.toNatClampNeg a1)) + 2))), (3, .int r13), (0, .ref (ad 0)), (1, .int a1), (2, .int a2)]) hx hb dX6_item_36 hl20 (by decide) rfl (fun ls25 hl24 => ?_)
      clear hl20
      refine lv_aload hx hb dX6_item_38 (lv_at hl24 0 rfl) ?_
      refine lv_iload_n hx hb dX6_item_40 rfl (lv_at hl24 4 rfl) ?_
      obtain ⟨r26, σ27, hc28, hf29⟩ := zBd hf23
      clear hf23
      refine zy_ci (r0 := r26) (WS1 := zg_W XL ad cA σ27) (TYS1 := zg_T XL cA) Z19 (va_runV (As := [.int a2]) (rest := []) X (c_X2_hasPlace l D V ad cA ((61 + 4 * (Int32.toNatClampNeg a1)) + 2) a2 (xO2 (xO j11)) σ14 r26 σ27 hc28 H17.size) (cwV 1 hts gX6_item_X2_hasPlace rfl rfl rfl ⟨rfl, zh_X2_hasPlace⟩ ⟨Nat.le_of_ble_eq_true rfl, Nat.le_of_ble_eq_true rfl⟩) (zy_pV (ci := 2) Z19 xL_ok (xO2 (xO j11)) rfl rfl) rfl rfl hl24.1 rfl (lv_room (Nat.le_of_ble_eq_true rfl)) dX6_item_41 ⟨Nat.le_of_ble_eq_true rfl, Nat.le_of_ble_eq_true rfl⟩) (fun H30 lo31 Z32 => ?_)
      clear Z19 hc28
      refine lv_if_ne (tgt := 51) hx hb dX6_item_44 (by decide) (fun b33 => ?_) (fun b33 => ?_)
      · have hf34 := zNot hf29 b33
        clear hf29
        refine lv_aload hx hb dX6_item_51 (lv_at hl24 0 rfl) ?_
        refine lv_iload_n hx hb dX6_item_53 rfl (lv_at hl24 4 rfl) ?_
        obtain ⟨r35, σ36, hc37, hf38⟩ := zBd hf34
        clear hf34
        refine zy_ci (r0 := r35) (WS1 := zg_W XL ad cA σ36) (TYS1 := zg_T XL cA) Z32 (va_runV (As := [.int a2]) (rest := []) X (c_X2_hasNumber l D V ad cA ((61 + 4 * (Int32.toNatClampNeg a1)) + 2) a2 (xO2 (xO j11)) σ27 r35 σ36 hc37 H30.size) (cwV 1 hts gX6_item_X2_hasNumber rfl rfl rfl ⟨rfl, zh_X2_hasNumber⟩ ⟨Nat.le_of_ble_eq_true rfl, Nat.le_of_ble_eq_true rfl⟩) (zy_pV (ci := 2) Z32 xL_ok (xO2 (xO j11)) rfl rfl) rfl rfl hl24.1 rfl (lv_room (Nat.le_of_ble_eq_true rfl)) dX6_item_54 ⟨Nat.le_of_ble_eq_true rfl, Nat.le_of_ble_eq_true rfl⟩) (fun H39 lo40 Z41 => ?_)
        clear Z32 hc37
        refine lv_if_eq (tgt := 70) hx hb dX6_item_57 (by decide) (fun b42 => ?_) (fun b42 => ?_)
        · have hf43 := zYes hf38 b42
          clear hf38
          refine lv_ldc (v := (-1000000012)) hx hb hown (hts _ (zz_m 6 rfl)) dX6_item_70 ?_
          exact zy_iret X hr hlk Z41 (zEnd hf43) dX6_item_72
        · have hf44 := zNot hf38 b42
          clear hf38
          refine lv_aload hx hb dX6_item_60 (lv_at hl24 0 rfl) ?_
          refine zy_get (v := .ref (ad (((61 + 4 * (Int32.toNatClampNeg a1)) + 2) + 1))) X Z41 xL_ok (xO2 (xO j11)) rfl rfl (fun w h => List.mem_cons_of_mem _ (List.mem_append_right _ h)) 2 rfl (zz_m 5 rfl) rfl dX6_item_62 ?_
          refine lv_iload_n hx hb dX6_item_65 rfl (lv_at hl24 4 rfl) ?_
          obtain ⟨⟨i45, j46⟩, hf47⟩ := zG hf44
          clear hf44
          refine zy_ild X Z41 xL_ok (xH1 (xO2 (xO j11))) (xH1l (xO2 (xO j11))) i45 dX6_item_66 ?_
          refine lv_goto (tgt := 72) hx hb dX6_item_67 (by decide) ?_
          exact zy_iret X hr hlk Z41 (zEnd hf47) dX6_item_72
      · have hf48 := zYes hf29 b33
        clear hf29
        refine lv_ldcw (v := (-1000000013)) hx hb hown (hts _ (zz_m 4 rfl)) dX6_item_47 ?_
        exact zy_iret X hr hlk Z32 (zEnd hf48) dX6_item_50
    · have hf49 := zNot hf16 b22
      clear hf16
      refine lv_iload_n hx hb dX6_item_25 rfl (lv_at hl20 0 rfl) ?_
      exact zy_iret X hr hlk Z19 (zEnd hf49) dX6_item_26
  · have hf50 := zYes hf4 b8
    clear hf4
    refine lv_ldc (v := (-1000000001)) hx hb hown (hts _ (zz_m 1 rfl)) dX6_item_7 ?_
    exact zy_iret X hr hlk Z7 (zEnd hf50) dX6_item_9
def f_X6_keep  (σ : zg_S) : Option (Int32 × zg_S) := zbd (f_X0_takeOver 177 153 σ) (fun (r1 : Int32) (σ2 : zg_S) => zlet (zg_up σ2 0 12 1) (fun (σ8 : zg_S) => some (σ8 153 3, σ8)))
set_option maxHeartbeats 4000000 in
set_option maxRecDepth 100000 in
theorem c_X6_keep (l : Launch) (D : va_G) (V : zz_V) (ad : Nat → Nat) (cA : Nat → ClassId)   (σ : zg_S) (r0 : Int32) (σf : zg_S) (hf : f_X6_keep  σ = some (r0, σf)) : zM_I l yX6_keep wsX6_keep 2 43 D V XL ad cA [.ref (ad 0)] σ r0 σf := by
  intro sz
  refine Met.ofW (cc := cX6_keep) (maxL := 1) (ret := (some .int)) (by decide) rfl ?_
  intro p e s m args below meth c s₁ B hml hv
  obtain ⟨rfl, hC⟩ := hv
  have hx := B.exec
  have hb := B.bytes
  have hr := B.returns
  have hts := atoms_spec (ws := wsX6_keep) B.pre
  have hown : s.vm.findClass RX6 = some m.cls := findClass_of_methodNamed B.named
  have hlk := B.notSynchronized
  have X : CallFix p m c cX6_keep 1 s _ wsX6_keep RX6 := ⟨hx, hb, hml, hown, hts⟩
  have Z := zz_enter hC
  generalize va_A (zg_W XL ad cA σ) sz = A at Z ⊢
  have hl := lv_entry ([.ref (ad 0)]) (n := 1) (Nat.le_of_ble_eq_true rfl)
  rw [lg_entry_eq]
  generalize (lg_sl ([.ref (ad 0)]) ++ List.replicate (1 - (lg_sl ([.ref (ad 0)])).length) Slot.unset).toArray = ls at hl ⊢
  have hl : lv_has ls 1 [(0, .ref (ad 0))] := hl
  unfold f_X6_keep at hf
  refine lv_aload_n hx hb dX6_keep_0 rfl (lv_at hl 0 rfl) ?_
  refine zy_get (v := .ref (ad 177)) X Z xL_ok xk_0 rfl rfl (fun w h => List.mem_cons_of_mem _ (List.mem_append_left _ (List.mem_append_left _ (List.mem_append_right _ h)))) 3 rfl (zz_m 1 rfl) rfl dX6_keep_1 ?_
  refine lv_aload_n hx hb dX6_keep_4 rfl (lv_at hl 0 rfl) ?_
  refine zy_get (v := .ref (ad 153)) X Z xL_ok xk_0 rfl rfl (fun w h => List.mem_cons_of_mem _ (List.mem_append_left _ (List.mem_append_left _ (List.mem_append_right _ h)))) 1 rfl (zz_m 2 rfl) rfl dX6_keep_5 ?_
  obtain ⟨r1, σ2, hc3, hf4⟩ := zBd hf
  clear hf
  refine zy_cv (WS1 := zg_W XL ad cA σ2) (TYS1 := zg_T XL cA) Z (va_runV (As := [.ref (ad 153)]) (rest := []) X (c_X0_takeOver l D V ad cA 177 153 xk_177 xk_153 σ r1 σ2 hc3 s.heap.size) (cwV 1 hts gX6_keep_X0_takeOver rfl rfl rfl ⟨rfl, zh_X0_takeOver⟩ ⟨Nat.le_of_ble_eq_true rfl, Nat.le_of_ble_eq_true rfl⟩) (zy_pV (ci := 0) Z xL_ok xk_177 rfl rfl) rfl rfl hl.1 rfl (lv_room (Nat.le_of_ble_eq_true rfl)) dX6_keep_8 ⟨Nat.le_of_ble_eq_true rfl, Nat.le_of_ble_eq_true rfl⟩) (fun H5 lo6 Z7 => ?_)
  clear Z hc3
  refine lv_aload_n hx hb dX6_keep_11 rfl (lv_at hl 0 rfl) ?_
  refine lv_iconst (v := 1) hx hb dX6_keep_12 (by decide) ?_
  obtain ⟨σ8, es9, hf10⟩ := zLet hf4
  clear hf4
  refine zy_put (v := 1) (σ' := σ8) X Z7 xL_ok xk_0 rfl rfl (fun w h => List.mem_cons_of_mem _ (List.mem_append_left _ (List.mem_append_left _ (List.mem_append_right _ h)))) tyX6 tyX6_ok nmX6 12 rfl (zz_m 3 rfl) rfl (by decide) (by decide) (fun _ => rfl) (fun _ => rfl) es9 dX6_keep_13 (fun H11 lo12 Z13 => ?_)
  clear Z7 es9
  refine lv_aload_n hx hb dX6_keep_16 rfl (lv_at hl 0 rfl) ?_
  refine zy_get (v := .ref (ad 153)) X Z13 xL_ok xk_0 rfl rfl (fun w h => List.mem_cons_of_mem _ (List.mem_append_left _ (List.mem_append_left _ (List.mem_append_right _ h)))) 1 rfl (zz_m 2 rfl) rfl dX6_keep_17 ?_
  refine zy_get (v := .int (σ8 153 3)) X Z13 xL_ok xk_153 rfl rfl (fun w h => List.mem_cons_of_mem _ (List.mem_append_left _ (List.mem_append_right _ h))) 3 rfl (zz_m 4 rfl) rfl dX6_keep_20 ?_
  exact zy_iret X hr hlk Z13 (zEnd hf10) dX6_keep_23
