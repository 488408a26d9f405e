def f_J0_coder_7d493 (q0 : Nat) (σ : zg_S) : Option (Int32 × zg_S) := (if vp_nar .byte 0 = 0 then some (0, σ) else none)
set_option maxHeartbeats 4000000 in
set_option maxRecDepth 100000 in
theorem c_J0_coder_7d493 (l : Launch) (D : va_G) (V : zz_V) (ad : Nat → Nat) (cA : Nat → ClassId) (q0 : Nat) (hq0 : q0 < 6) (σ : zg_S) (r0 : Int32) (σf : zg_S) (hf : f_J0_coder_7d493 q0 σ = some (r0, σf)) : zM_I l yJ0_coder_7d493 wsJ0_coder_7d493 0 0 D V XL ad cA [.ref (V.1 q0)] σ r0 σf := by
  intro sz
  refine Met.ofW (cc := cJ0_coder_7d493) (maxL := 1) (ret := (some .byte)) (by decide) rfl ?_
  intro p e s m args below meth c s₁ B hml hv
  obtain ⟨rfl, hC⟩ := hv
  have hx := B.exec
  have hb := B.bytes
  have hr := B.returns
  have hts := atoms_spec (ws := wsJ0_coder_7d493) B.pre
  have hown : s.vm.findClass RJ0 = some m.cls := findClass_of_methodNamed B.named
  have hlk := B.notSynchronized
  have X : CallFix p m c cJ0_coder_7d493 1 s _ wsJ0_coder_7d493 RJ0 := ⟨hx, hb, hml, hown, hts⟩
  have Z := zz_enter hC
  generalize va_A (zg_W XL ad cA σ) sz = A at Z ⊢
  have hl := lv_entry ([.ref (V.1 q0)]) (n := 1) (Nat.le_of_ble_eq_true rfl)
  rw [lg_entry_eq]
  generalize (lg_sl ([.ref (V.1 q0)]) ++ List.replicate (1 - (lg_sl ([.ref (V.1 q0)])).length) Slot.unset).toArray = ls at hl ⊢
  have hl : lv_has ls 1 [(0, .ref (V.1 q0))] := hl
  unfold f_J0_coder_7d493 at hf
  refine va_gets hx hb Z.2.2.2.2.2.2.2.2.2.2.2.1 Z.2.2.2.1 hown (hts _ (zz_m 1 rfl)) (fun _ h => h) dJ0_coder_7d493_0 ?_
  refine lv_if_eq (tgt := 13) hx hb dJ0_coder_7d493_3 (by decide) (fun h => absurd h (by decide)) (fun _ => ?_)
  refine lv_aload_n hx hb dJ0_coder_7d493_6 rfl (lv_at hl 0 rfl) ?_
  refine vk_getf hx hb (Z.2.2.2.2.2.2.2.2.1.1 q0 hq0).2.1 Z.2.2.2.1 hown (hts _ (zz_m 2 rfl)) (fun _ h => h) dJ0_coder_7d493_7 ?_
  refine lv_goto (tgt := 14) hx hb dJ0_coder_7d493_10 (by decide) ?_
  obtain ⟨z2, hf1⟩ := zC hf
  exact zy_cret X hr hlk Z (zNar z2 rfl) (zEnd hf1) dJ0_coder_7d493_14
def f_J0_length_8abf5 (q0 : Nat) (σ : zg_S) : Option (Int32 × zg_S) := zbd (f_J0_coder_7d493 q0 σ) (fun (r1 : Int32) (σ2 : zg_S) => some ((nI (zz_len.getD q0 0)) >>> (r1 &&& 31), σ2))
set_option maxHeartbeats 4000000 in
set_option maxRecDepth 100000 in
theorem c_J0_length_8abf5 (l : Launch) (D : va_G) (V : zz_V) (ad : Nat → Nat) (cA : Nat → ClassId) (q0 : Nat) (hq0 : q0 < 6) (σ : zg_S) (r0 : Int32) (σf : zg_S) (hf : f_J0_length_8abf5 q0 σ = some (r0, σf)) : zM_I l yJ0_length_8abf5 wsJ0_length_8abf5 1 20 D V XL ad cA [.ref (V.1 q0)] σ r0 σf := by
  intro sz
  refine Met.ofW (cc := cJ0_length_8abf5) (maxL := 1) (ret := (some .int)) (by decide) rfl ?_
  intro p e s m args below meth c s₁ B hml hv
  obtain ⟨rfl, hC⟩ := hv
  have hx := B.exec
  have hb := B.bytes
  have hr := B.returns
  have hts := atoms_spec (ws := wsJ0_length_8abf5) B.pre
  have hown : s.vm.findClass RJ0 = some m.cls := findClass_of_methodNamed B.named
  have hlk := B.notSynchronized
  have X : CallFix p m c cJ0_length_8abf5 1 s _ wsJ0_length_8abf5 RJ0 := ⟨hx, hb, hml, hown, hts⟩
  have Z := zz_enter hC
  generalize va_A (zg_W XL ad cA σ) sz = A at Z ⊢
  have hl := lv_entry ([.ref (V.1 q0)]) (n := 1) (Nat.le_of_ble_eq_true rfl)
  rw [lg_entry_eq]
  generalize (lg_sl ([.ref (V.1 q0)]) ++ List.replicate (1 - (lg_sl ([.ref (V.1 q0)])).length) Slot.unset).toArray = ls at hl ⊢
  have hl : lv_has ls 1 [(0, .ref (V.1 q0))] := hl
  unfold f_J0_length_8abf5 at hf
  refine lv_aload_n hx hb dJ0_length_8abf5_0 rfl (lv_at hl 0 rfl) ?_
  refine vk_getf hx hb (Z.2.2.2.2.2.2.2.2.1.1 q0 hq0).2.2.1 Z.2.2.2.1 hown (hts _ (zz_m 1 rfl)) (fun _ h => h) dJ0_length_8abf5_1 ?_
  refine va_tlen (v := nI (zz_len.getD q0 0)) hx hb (Z.2.2.2.2.2.2.2.2.1.1 q0 hq0).2.2.2 Z.2.2.2.1 rfl dJ0_length_8abf5_4 ?_
  refine lv_aload_n hx hb dJ0_length_8abf5_5 rfl (lv_at hl 0 rfl) ?_
  obtain ⟨r1, σ2, hc3, hf4⟩ := zBd hf
  clear hf
  refine zy_ci (r0 := r1) (WS1 := zg_W XL ad cA σ2) (TYS1 := zg_T XL cA) Z (va_runV (As := []) (rest := [.int (nI (zz_len.getD q0 0))]) X (c_J0_coder_7d493 l D V ad cA q0 hq0 σ r1 σ2 hc3 s.heap.size) (cwV 0 hts gJ0_length_8abf5_J0_coder_7d493 rfl rfl rfl ⟨rfl, zh_J0_coder_7d493⟩ ⟨Nat.le_of_ble_eq_true rfl, Nat.le_of_ble_eq_true rfl⟩) (zy_pVs Z hq0) rfl rfl hl.1 rfl (lv_room (Nat.le_of_ble_eq_true rfl)) dJ0_length_8abf5_6 ⟨Nat.le_of_ble_eq_true rfl, Nat.le_of_ble_eq_true rfl⟩) (fun H5 lo6 Z7 => ?_)
  clear Z hc3
  refine lv_ishr hx hb dJ0_length_8abf5_9 ?_
  exact zy_iret X hr hlk Z7 (zEnd hf4) dJ0_length_8abf5_10
def f_J0_isLatin1_aae02 (q0 : Nat) (σ : zg_S) : Option (Int32 × zg_S) := some (1, σ)
set_option maxHeartbeats 4000000 in
set_option maxRecDepth 100000 in
theorem c_J0_isLatin1_aae02 (l : Launch) (D : va_G) (V : zz_V) (ad : Nat → Nat) (cA : Nat → ClassId) (q0 : Nat) (hq0 : q0 < 6) (σ : zg_S) (r0 : Int32) (σf : zg_S) (hf : f_J0_isLatin1_aae02 q0 σ = some (r0, σf)) : zM_I l yJ0_isLatin1_aae02 wsJ0_isLatin1_aae02 0 0 D V XL ad cA [.ref (V.1 q0)] σ r0 σf := by
  intro sz
  refine Met.ofW (cc := cJ0_isLatin1_aae02) (maxL := 1) (ret := (some .boolean)) (by decide) rfl ?_
  intro p e s m args below meth c s₁ B hml hv
  obtain ⟨rfl, hC⟩ := hv
  have hx := B.exec
  have hb := B.bytes
  have hr := B.returns
  have hts := atoms_spec (ws := wsJ0_isLatin1_aae02) B.pre
  have hown : s.vm.findClass RJ0 = some m.cls := findClass_of_methodNamed B.named
  have hlk := B.notSynchronized
  have X : CallFix p m c cJ0_isLatin1_aae02 1 s _ wsJ0_isLatin1_aae02 RJ0 := ⟨hx, hb, hml, hown, hts⟩
  have Z := zz_enter hC
  generalize va_A (zg_W XL ad cA σ) sz = A at Z ⊢
  have hl := lv_entry ([.ref (V.1 q0)]) (n := 1) (Nat.le_of_ble_eq_true rfl)
  rw [lg_entry_eq]
  generalize (lg_sl ([.ref (V.1 q0)]) ++ List.replicate (1 - (lg_sl ([.ref (V.1 q0)])).length) Slot.unset).toArray = ls at hl ⊢
  have hl : lv_has ls 1 [(0, .ref (V.1 q0))] := hl
  unfold f_J0_isLatin1_aae02 at hf
  refine va_gets hx hb Z.2.2.2.2.2.2.2.2.2.2.2.1 Z.2.2.2.1 hown (hts _ (zz_m 1 rfl)) (fun _ h => h) dJ0_isLatin1_aae02_0 ?_
  refine lv_if_eq (tgt := 17) hx hb dJ0_isLatin1_aae02_3 (by decide) (fun h => absurd h (by decide)) (fun _ => ?_)
  refine lv_aload_n hx hb dJ0_isLatin1_aae02_6 rfl (lv_at hl 0 rfl) ?_
  refine vk_getf hx hb (Z.2.2.2.2.2.2.2.2.1.1 q0 hq0).2.1 Z.2.2.2.1 hown (hts _ (zz_m 2 rfl)) (fun _ h => h) dJ0_isLatin1_aae02_7 ?_
  refine lv_if_ne (tgt := 17) hx hb dJ0_isLatin1_aae02_10 (by decide) (fun h => absurd (by decide) h) (fun _ => ?_)
  refine lv_iconst (v := 1) hx hb dJ0_isLatin1_aae02_13 (by decide) ?_
  refine lv_goto (tgt := 18) hx hb dJ0_isLatin1_aae02_14 (by decide) ?_
  exact zy_zret X hr hlk Z (by decide) (zEnd hf) dJ0_isLatin1_aae02_18
def B_J3_checkIndex_8e157_9 (a0 : Int32) (a1 : Int32) (σ : zg_S) : Option (Int32 × zg_S) := none
def f_J3_checkIndex_8e157 (a0 : Int32) (a1 : Int32) (σ : zg_S) : Option (Int32 × zg_S) := (if a0 < 0 then B_J3_checkIndex_8e157_9 a0 a1 σ else (if a0 < a1 then some (a0, σ) else B_J3_checkIndex_8e157_9 a0 a1 σ))
set_option maxHeartbeats 4000000 in
set_option maxRecDepth 100000 in
theorem c_J3_checkIndex_8e157_null  (l : Launch) (D : va_G) (V : zz_V) (ad : Nat → Nat) (cA : Nat → ClassId) (a0 : Int32) (a1 : Int32)  (σ : zg_S) (r0 : Int32) (σf : zg_S) (hf : f_J3_checkIndex_8e157 a0 a1 σ = some (r0, σf)) : zM_I l yJ3_checkIndex_8e157 wsJ3_checkIndex_8e157 0 0 D V XL ad cA [.int a0, .int a1, .null] σ r0 σf := by
  intro sz
  refine Met.ofW (cc := cJ3_checkIndex_8e157) (maxL := 3) (ret := (some .int)) (by decide) rfl ?_
  intro p e s m args below meth c s₁ B hml hv
  obtain ⟨rfl, hC⟩ := hv
  have hx := B.exec
  have hb := B.bytes
  have hr := B.returns
  have hts := atoms_spec (ws := wsJ3_checkIndex_8e157) B.pre
  have hown : s.vm.findClass RJ3 = some m.cls := findClass_of_methodNamed B.named
  have hlk := B.notSynchronized
  have X : CallFix p m c cJ3_checkIndex_8e157 3 s _ wsJ3_checkIndex_8e157 RJ3 := ⟨hx, hb, hml, hown, hts⟩
  have Z := zz_enter hC
  generalize va_A (zg_W XL ad cA σ) sz = A at Z ⊢
  have hl := lv_entry ([.int a0, .int a1, .null]) (n := 3) (Nat.le_of_ble_eq_true rfl)
  rw [lg_entry_eq]
  generalize (lg_sl ([.int a0, .int a1, .null]) ++ List.replicate (3 - (lg_sl ([.int a0, .int a1, .null])).length) Slot.unset).toArray = ls at hl ⊢
  have hl : lv_has ls 3 [(0, .int a0), (1, .int a1), (2, .null)] := hl
  unfold f_J3_checkIndex_8e157 at hf
  have b9_ : ∀ (σ : zg_S), B_J3_checkIndex_8e157_9 a0 a1  σ = some (r0, σf) → ∀ (H : Heap) (locs : List Loc) (ls : Array Slot), zz_S D V A s (zg_W XL ad cA σ) (zg_T XL cA) H locs → lv_has ls 3 [(0, .int a0), (1, .int a1), (2, .null)] → W p l e (headSpec wsJ3_checkIndex_8e157 { frames := 0, cells := 0, slots := 0, locals := 0 }).room s m (List.toArray [.int a0, .int a1, .null]) below meth c H locs 0 0 (MQ below (va_Qi (fun r (_ : Unit) => r = r0) (fun _ t => zz_B D A (zg_W XL ad cA σf) (zg_T XL cA) t) A) (List.toArray [.int a0, .int a1, .null]) s 0 0 A) (F0 m 9 ls []) := by
    intro σ hf9_ H9_ locs9_ ls9_ Z9_ hl9_
    unfold B_J3_checkIndex_8e157_9 at hf9_
    exact zNone hf9_
  refine lv_iload_n hx hb dJ3_checkIndex_8e157_0 rfl (lv_at hl 0 rfl) ?_
  refine lv_if_lt (tgt := 9) hx hb dJ3_checkIndex_8e157_1 (by decide) (fun b1 => ?_) (fun b1 => ?_)
  · have hf2 := zYes hf b1
    clear hf
    exact b9_ σ hf2 _ _ _ Z (lv_sub hl [0, 1, 2] rfl)
  · have hf3 := zNot hf b1
    clear hf
    refine lv_iload_n hx hb dJ3_checkIndex_8e157_4 rfl (lv_at hl 0 rfl) ?_
    refine lv_iload_n hx hb dJ3_checkIndex_8e157_5 rfl (lv_at hl 1 rfl) ?_
    refine lv_icmp_lt (tgt := 16) hx hb dJ3_checkIndex_8e157_6 (by decide) (fun b4 => ?_) (fun b4 => ?_)
    · have hf5 := zYes hf3 b4
      clear hf3
      refine lv_iload_n hx hb dJ3_checkIndex_8e157_16 rfl (lv_at hl 0 rfl) ?_
      exact zy_iret X hr hlk Z (zEnd hf5) dJ3_checkIndex_8e157_17
    · have hf6 := zNot hf3 b4
      clear hf3
      exact b9_ σ hf6 _ _ _ Z (lv_sub hl [0, 1, 2] rfl)
set_option maxHeartbeats 4000000 in
set_option maxRecDepth 100000 in
theorem c_J3_checkIndex_8e157_ref (t0 : Nat) (l : Launch) (D : va_G) (V : zz_V) (ad : Nat → Nat) (cA : Nat → ClassId) (a0 : Int32) (a1 : Int32)  (σ : zg_S) (r0 : Int32) (σf : zg_S) (hf : f_J3_checkIndex_8e157 a0 a1 σ = some (r0, σf)) : zM_I l yJ3_checkIndex_8e157 wsJ3_checkIndex_8e157 0 0 D V XL ad cA [.int a0, .int a1, .ref t0] σ r0 σf := by
  intro sz
  refine Met.ofW (cc := cJ3_checkIndex_8e157) (maxL := 3) (ret := (some .int)) (by decide) rfl ?_
  intro p e s m args below meth c s₁ B hml hv
  obtain ⟨rfl, hC⟩ := hv
  have hx := B.exec
  have hb := B.bytes
  have hr := B.returns
  have hts := atoms_spec (ws := wsJ3_checkIndex_8e157) B.pre
  have hown : s.vm.findClass RJ3 = some m.cls := findClass_of_methodNamed B.named
  have hlk := B.notSynchronized
  have X : CallFix p m c cJ3_checkIndex_8e157 3 s _ wsJ3_checkIndex_8e157 RJ3 := ⟨hx, hb, hml, hown, hts⟩
  have Z := zz_enter hC
  generalize va_A (zg_W XL ad cA σ) sz = A at Z ⊢
  have hl := lv_entry ([.int a0, .int a1, .ref t0]) (n := 3) (Nat.le_of_ble_eq_true rfl)
  rw [lg_entry_eq]
  generalize (lg_sl ([.int a0, .int a1, .ref t0]) ++ List.replicate (3 - (lg_sl ([.int a0, .int a1, .ref t0])).length) Slot.unset).toArray = ls at hl ⊢
  have hl : lv_has ls 3 [(0, .int a0), (1, .int a1), (2, .ref t0)] := hl
  unfold f_J3_checkIndex_8e157 at hf
  have b9_ : ∀ (σ : zg_S), B_J3_checkIndex_8e157_9 a0 a1  σ = some (r0, σf) → ∀ (H : Heap) (locs : List Loc) (ls : Array Slot), zz_S D V A s (zg_W XL ad cA σ) (zg_T XL cA) H locs → lv_has ls 3 [(0, .int a0), (1, .int a1), (2, .ref t0)] → W p l e (headSpec wsJ3_checkIndex_8e157 { frames := 0, cells := 0, slots := 0, locals := 0 }).room s m (List.toArray [.int a0, .int a1, .ref t0]) below meth c H locs 0 0 (MQ below (va_Qi (fun r (_ : Unit) => r = r0) (fun _ t => zz_B D A (zg_W XL ad cA σf) (zg_T XL cA) t) A) (List.toArray [.int a0, .int a1, .ref t0]) s 0 0 A) (F0 m 9 ls []) := by
    intro σ hf9_ H9_ locs9_ ls9_ Z9_ hl9_
    unfold B_J3_checkIndex_8e157_9 at hf9_
    exact zNone hf9_
  refine lv_iload_n hx hb dJ3_checkIndex_8e157_0 rfl (lv_at hl 0 rfl) ?_
  refine lv_if_lt (tgt := 9) hx hb dJ3_checkIndex_8e157_1 (by decide) (fun b1 => ?_) (fun b1 => ?_)
  · have hf2 := zYes hf b1
    clear hf
    exact b9_ σ hf2 _ _ _ Z (lv_sub hl [0, 1, 2] rfl)
  · have hf3 := zNot hf b1
    clear hf
    refine lv_iload_n hx hb dJ3_checkIndex_8e157_4 rfl (lv_at hl 0 rfl) ?_
    refine lv_iload_n hx hb dJ3_checkIndex_8e157_5 rfl (lv_at hl 1 rfl) ?_
    refine lv_icmp_lt (tgt := 16) hx hb dJ3_checkIndex_8e157_6 (by decide) (fun b4 => ?_) (fun b4 => ?_)
    · have hf5 := zYes hf3 b4
      clear hf3
      refine lv_iload_n hx hb dJ3_checkIndex_8e157_16 rfl (lv_at hl 0 rfl) ?_
      exact zy_iret X hr hlk Z (zEnd hf5) dJ3_checkIndex_8e157_17
    · have hf6 := zNot hf3 b4
      clear hf3
      exact b9_ σ hf6 _ _ _ Z (lv_sub hl [0, 1, 2] rfl)
def f_J0_checkIndex_df160 (a0 : Int32) (a1 : Int32) (σ : zg_S) : Option (Int32 × zg_S) := zbd (f_J3_checkIndex_8e157 a0 a1 σ) (fun (r10 : Int32) (σ11 : zg_S) => some (0, σ11))
set_option maxHeartbeats 4000000 in
set_option maxRecDepth 100000 in
theorem c_J0_checkIndex_df160 (l : Launch) (D : va_G) (V : zz_V) (ad : Nat → Nat) (cA : Nat → ClassId) (a0 : Int32) (a1 : Int32)  (σ : zg_S) (r0 : Int32) (σf : zg_S) (hf : f_J0_checkIndex_df160 a0 a1 σ = some (r0, σf)) : zM_V l yJ0_checkIndex_df160 wsJ0_checkIndex_df160 1 22 D V XL ad cA [.int a0, .int a1] σ r0 σf := by
  intro sz
  refine Met.ofW (cc := cJ0_checkIndex_df160) (maxL := 2) (ret := none) (by decide) rfl ?_
  intro p e s m args below meth c s₁ B hml hv
  obtain ⟨rfl, hC⟩ := hv
  have hx := B.exec
  have hb := B.bytes
  have hr := B.returns
  have hts := atoms_spec (ws := wsJ0_checkIndex_df160) B.pre
  have hown : s.vm.findClass RJ0 = some m.cls := findClass_of_methodNamed B.named
  have hlk := B.notSynchronized
  have X : CallFix p m c cJ0_checkIndex_df160 2 s _ wsJ0_checkIndex_df160 RJ0 := ⟨hx, hb, hml, hown, hts⟩
  have Z := zz_enter hC
  generalize va_A (zg_W XL ad cA σ) sz = A at Z ⊢
  have hl := lv_entry ([.int a0, .int a1]) (n := 2) (Nat.le_of_ble_eq_true rfl)
  rw [lg_entry_eq]
  generalize (lg_sl ([.int a0, .int a1]) ++ List.replicate (2 - (lg_sl ([.int a0, .int a1])).length) Slot.unset).toArray = ls at hl ⊢
  have hl : lv_has ls 2 [(0, .int a0), (1, .int a1)] := hl
  unfold f_J0_checkIndex_df160 at hf
  refine lv_iload_n hx hb dJ0_checkIndex_df160_0 rfl (lv_at hl 0 rfl) ?_
  refine lv_iload_n hx hb dJ0_checkIndex_df160_1 rfl (lv_at hl 1 rfl) ?_
  rcases Z.2.2.2.2.2.2.2.2.2.2.2.2.1 with hz1 | ⟨t2, hz1⟩
  · refine va_gets hx hb hz1 Z.2.2.2.1 hown (hts _ (zz_m 1 rfl)) (fun _ h => h) dJ0_checkIndex_df160_2 ?_
    obtain ⟨r3, σ4, hc5, hf6⟩ := zBd hf
    clear hf
    refine zy_ci (r0 := r3) (WS1 := zg_W XL ad cA σ4) (TYS1 := zg_T XL cA) Z (va_runS (As := [.int a0, .int a1, .null]) (rest := []) X (c_J3_checkIndex_8e157_null l D V ad cA a0 a1 σ r3 σ4 hc5 s.heap.size) (va_cwS 3 hts gJ0_checkIndex_df160_J3_checkIndex_8e157 rfl rfl rfl zh_J3_checkIndex_8e157 ⟨Nat.le_of_ble_eq_true rfl, Nat.le_of_ble_eq_true rfl⟩) (zz_pS Z) rfl rfl hl.1 rfl (lv_room (Nat.le_of_ble_eq_true rfl)) dJ0_checkIndex_df160_5 ⟨Nat.le_of_ble_eq_true rfl, Nat.le_of_ble_eq_true rfl⟩) (fun H7 lo8 Z9 => ?_)
    clear Z hc5
    refine lv_pop hx hb dJ0_checkIndex_df160_8 rfl ?_
    exact zy_vret X hr hlk Z9 (zEnd hf6) dJ0_checkIndex_df160_9
  · refine va_gets hx hb hz1 Z.2.2.2.1 hown (hts _ (zz_m 1 rfl)) (fun _ h => h) dJ0_checkIndex_df160_2 ?_
    obtain ⟨r10, σ11, hc12, hf13⟩ := zBd hf
    clear hf
    refine zy_ci (r0 := r10) (WS1 := zg_W XL ad cA σ11) (TYS1 := zg_T XL cA) Z (va_runS (As := [.int a0, .int a1, .ref t2]) (rest := []) X (c_J3_checkIndex_8e157_ref t2 l D V ad cA a0 a1 σ r10 σ11 hc12 s.heap.size) (va_cwS 3 hts gJ0_checkIndex_df160_J3_checkIndex_8e157 rfl rfl rfl zh_J3_checkIndex_8e157 ⟨Nat.le_of_ble_eq_true rfl, Nat.le_of_ble_eq_true rfl⟩) (zz_pS Z) rfl rfl hl.1 rfl (lv_room (Nat.le_of_ble_eq_true rfl)) dJ0_checkIndex_df160_5 ⟨Nat.le_of_ble_eq_true rfl, Nat.le_of_ble_eq_true rfl⟩) (fun H14 lo15 Z16 => ?_)
    clear Z hc12
    refine lv_pop hx hb dJ0_checkIndex_df160_8 rfl ?_
    exact zy_vret X hr hlk Z16 (zEnd hf13) dJ0_checkIndex_df160_9
def f_J1_charAt_3b067 (q0 : Nat) (a1 : Int32) (σ : zg_S) : Option (Int32 × zg_S) := zbd (f_J0_checkIndex_df160 a1 (nI (zz_len.getD q0 0)) σ) (fun (r1 : Int32) (σ2 : zg_S) => (if zin a1 (zz_len.getD q0 0) = true then (if vp_nar .char ((Int32.toUInt32 (((zz_byt.getD q0 []).getD (Int32.toNatClampNeg a1) 0) &&& 255) % 65536).toInt32) = (Int32.toUInt32 (((zz_byt.getD q0 []).getD (Int32.toNatClampNeg a1) 0) &&& 255) % 65536).toInt32 then some ((Int32.toUInt32 (((zz_byt.getD q0 []).getD (Int32.toNatClampNeg a1) 0) &&& 255) % 65536).toInt32, σ2) else none) else none))
set_option maxHeartbeats 4000000 in
set_option maxRecDepth 100000 in
theorem c_J1_charAt_3b067 (l : Launch) (D : va_G) (V : zz_V) (ad : Nat → Nat) (cA : Nat → ClassId) (q0 : Nat) (a1 : Int32) (hq0 : q0 < 6) (σ : zg_S) (r0 : Int32) (σf : zg_S) (hf : f_J1_charAt_3b067 q0 a1 σ = some (r0, σf)) : zM_I l yJ1_charAt_3b067 wsJ1_charAt_3b067 2 43 D V XL ad cA [.ref (V.2.1 q0), .int a1] σ r0 σf := by
  intro sz
  refine Met.ofW (cc := cJ1_charAt_3b067) (maxL := 2) (ret := (some .char)) (by decide) rfl ?_
  intro p e s m args below meth c s₁ B hml hv
  obtain ⟨rfl, hC⟩ := hv
  have hx := B.exec
  have hb := B.bytes
  have hr := B.returns
  have hts := atoms_spec (ws := wsJ1_charAt_3b067) B.pre
  have hown : s.vm.findClass RJ1 = some m.cls := findClass_of_methodNamed B.named
  have hlk := B.notSynchronized
  have X : CallFix p m c cJ1_charAt_3b067 2 s _ wsJ1_charAt_3b067 RJ1 := ⟨hx, hb, hml, hown, hts⟩
  have Z := zz_enter hC
  generalize va_A (zg_W XL ad cA σ) sz = A at Z ⊢
  have hl := lv_entry ([.ref (V.2.1 q0), .int a1]) (n := 2) (Nat.le_of_ble_eq_true rfl)
  rw [lg_entry_eq]
  generalize (lg_sl ([.ref (V.2.1 q0), .int a1]) ++ List.replicate (2 - (lg_sl ([.ref (V.2.1 q0), .int a1])).length) Slot.unset).toArray = ls at hl ⊢
  have hl : lv_has ls 2 [(0, .ref (V.2.1 q0)), (1, .int a1)] := hl
  unfold f_J1_charAt_3b067 at hf
  refine lv_iload_n hx hb dJ1_charAt_3b067_0 rfl (lv_at hl 1 rfl) ?_
  refine lv_aload_n hx hb dJ1_charAt_3b067_1 rfl (lv_at hl 0 rfl) ?_
  refine va_tlen (v := nI (zz_len.getD q0 0)) hx hb (Z.2.2.2.2.2.2.2.2.1.1 q0 hq0).2.2.2 Z.2.2.2.1 rfl dJ1_charAt_3b067_2 ?_
  obtain ⟨r1, σ2, hc3, hf4⟩ := zBd hf
  clear hf
  refine zy_cv (WS1 := zg_W XL ad cA σ2) (TYS1 := zg_T XL cA) Z (va_runS (As := [.int a1, .int (nI (zz_len.getD q0 0))]) (rest := []) X (c_J0_checkIndex_df160 l D V ad cA a1 (nI (zz_len.getD q0 0)) σ r1 σ2 hc3 s.heap.size) (va_cwS 2 hts gJ1_charAt_3b067_J0_checkIndex_df160 rfl rfl rfl zh_J0_checkIndex_df160 ⟨Nat.le_of_ble_eq_true rfl, Nat.le_of_ble_eq_true rfl⟩) (zz_pS Z) rfl rfl hl.1 rfl (lv_room (Nat.le_of_ble_eq_true rfl)) dJ1_charAt_3b067_3 ⟨Nat.le_of_ble_eq_true rfl, Nat.le_of_ble_eq_true rfl⟩) (fun H5 lo6 Z7 => ?_)
  clear Z hc3
  refine lv_aload_n hx hb dJ1_charAt_3b067_6 rfl (lv_at hl 0 rfl) ?_
  refine lv_iload_n hx hb dJ1_charAt_3b067_7 rfl (lv_at hl 1 rfl) ?_
  obtain ⟨⟨i8, j9⟩, hf10⟩ := zG hf4
  clear hf4
  refine va_tb (v := .int ((zz_byt.getD q0 []).getD (Int32.toNatClampNeg a1) 0)) hx hb (Z7.2.2.2.2.2.2.2.2.1.1 q0 hq0).2.2.2 Z7.2.2.2.1 i8 rfl dJ1_charAt_3b067_8 ?_
  refine lv_sipush (v := 255) hx hb dJ1_charAt_3b067_9 (by decide) ?_
  refine lv_iand hx hb dJ1_charAt_3b067_12 ?_
  refine lv_i2c (v := (Int32.toUInt32 (((zz_byt.getD q0 []).getD (Int32.toNatClampNeg a1) 0) &&& 255) % 65536).toInt32) hx hb dJ1_charAt_3b067_13 rfl ?_
  obtain ⟨z12, hf11⟩ := zC hf10
  exact zy_cret X hr hlk Z7 (zNar z12 rfl) (zEnd hf11) dJ1_charAt_3b067_14
def f_J0_charAt_5068e (q0 : Nat) (a1 : Int32) (σ : zg_S) : Option (Int32 × zg_S) := zbd (f_J0_isLatin1_aae02 q0 σ) (fun (r1 : Int32) (σ2 : zg_S) => (if r1 = 0 then none else zbd (f_J1_charAt_3b067 q0 a1 σ2) (fun (r11 : Int32) (σ12 : zg_S) => (if vp_nar .char r11 = r11 then some (r11, σ12) else none))))
set_option maxHeartbeats 4000000 in
set_option maxRecDepth 100000 in
theorem c_J0_charAt_5068e (l : Launch) (D : va_G) (V : zz_V) (ad : Nat → Nat) (cA : Nat → ClassId) (q0 : Nat) (a1 : Int32) (hq0 : q0 < 6) (σ : zg_S) (r0 : Int32) (σf : zg_S) (hf : f_J0_charAt_5068e q0 a1 σ = some (r0, σf)) : zM_I l yJ0_charAt_5068e wsJ0_charAt_5068e 3 64 D V XL ad cA [.ref (V.1 q0), .int a1] σ r0 σf := by
  intro sz
  refine Met.ofW (cc := cJ0_charAt_5068e) (maxL := 2) (ret := (some .char)) (by decide) rfl ?_
  intro p e s m args below meth c s₁ B hml hv
  obtain ⟨rfl, hC⟩ := hv
  have hx := B.exec
  have hb := B.bytes
  have hr := B.returns
  have hts := atoms_spec (ws := wsJ0_charAt_5068e) B.pre
  have hown : s.vm.findClass RJ0 = some m.cls := findClass_of_methodNamed B.named
  have hlk := B.notSynchronized
  have X : CallFix p m c cJ0_charAt_5068e 2 s _ wsJ0_charAt_5068e RJ0 := ⟨hx, hb, hml, hown, hts⟩
  have Z := zz_enter hC
  generalize va_A (zg_W XL ad cA σ) sz = A at Z ⊢
  have hl := lv_entry ([.ref (V.1 q0), .int a1]) (n := 2) (Nat.le_of_ble_eq_true rfl)
  rw [lg_entry_eq]
  generalize (lg_sl ([.ref (V.1 q0), .int a1]) ++ List.replicate (2 - (lg_sl ([.ref (V.1 q0), .int a1])).length) Slot.unset).toArray = ls at hl ⊢
  have hl : lv_has ls 2 [(0, .ref (V.1 q0)), (1, .int a1)] := hl
  unfold f_J0_charAt_5068e at hf
  refine lv_aload_n hx hb dJ0_charAt_5068e_0 rfl (lv_at hl 0 rfl) ?_
  obtain ⟨r1, σ2, hc3, hf4⟩ := zBd hf
  clear hf
  refine zy_ci (r0 := r1) (WS1 := zg_W XL ad cA σ2) (TYS1 := zg_T XL cA) Z (va_runV (As := []) (rest := []) X (c_J0_isLatin1_aae02 l D V ad cA q0 hq0 σ r1 σ2 hc3 s.heap.size) (cwV 0 hts gJ0_charAt_5068e_J0_isLatin1_aae02 rfl rfl rfl ⟨rfl, zh_J0_isLatin1_aae02⟩ ⟨Nat.le_of_ble_eq_true rfl, Nat.le_of_ble_eq_true rfl⟩) (zy_pVs Z hq0) rfl rfl hl.1 rfl (lv_room (Nat.le_of_ble_eq_true rfl)) dJ0_charAt_5068e_1 ⟨Nat.le_of_ble_eq_true rfl, Nat.le_of_ble_eq_true rfl⟩) (fun H5 lo6 Z7 => ?_)
  clear Z hc3
  refine lv_if_eq (tgt := 16) hx hb dJ0_charAt_5068e_4 (by decide) (fun b8 => ?_) (fun b8 => ?_)
  · have hf9 := zYes hf4 b8
    clear hf4
    exact zNone hf9
  · have hf10 := zNot hf4 b8
    clear hf4
    refine lv_aload_n hx hb dJ0_charAt_5068e_7 rfl (lv_at hl 0 rfl) ?_
    refine vk_getf hx hb (Z7.2.2.2.2.2.2.2.2.1.1 q0 hq0).2.2.1 Z7.2.2.2.1 hown (hts _ (zz_m 1 rfl)) (fun _ h => h) dJ0_charAt_5068e_8 ?_
    refine lv_iload_n hx hb dJ0_charAt_5068e_11 rfl (lv_at hl 1 rfl) ?_
    obtain ⟨r11, σ12, hc13, hf14⟩ := zBd hf10
    clear hf10
    refine zy_ci (r0 := r11) (WS1 := zg_W XL ad cA σ12) (TYS1 := zg_T XL cA) Z7 (va_runS (As := [.ref (V.2.1 q0), .int a1]) (rest := []) X (c_J1_charAt_3b067 l D V ad cA q0 a1 hq0 σ2 r11 σ12 hc13 H5.size) (va_cwS 2 hts gJ0_charAt_5068e_J1_charAt_3b067 rfl rfl rfl zh_J1_charAt_3b067 ⟨Nat.le_of_ble_eq_true rfl, Nat.le_of_ble_eq_true rfl⟩) (zz_pS Z7) rfl rfl hl.1 rfl (lv_room (Nat.le_of_ble_eq_true rfl)) dJ0_charAt_5068e_12 ⟨Nat.le_of_ble_eq_true rfl, Nat.le_of_ble_eq_true rfl⟩) (fun H15 lo16 Z17 => ?_)
    clear Z7 hc13
    obtain ⟨z19, hf18⟩ := zC hf14
    exact zy_cret X hr hlk Z17 (zNar z19 rfl) (zEnd hf18) dJ0_charAt_5068e_15
def f_J1_canEncode_9a6ad (a0 : Int32) (σ : zg_S) : Option (Int32 × zg_S) := (if a0 < 0 then some (0, σ) else (if 255 < a0 then some (0, σ) else some (1, σ)))
set_option maxHeartbeats 4000000 in
set_option maxRecDepth 100000 in
theorem c_J1_canEncode_9a6ad (l : Launch) (D : va_G) (V : zz_V) (ad : Nat → Nat) (cA : Nat → ClassId) (a0 : Int32)  (σ : zg_S) (r0 : Int32) (σf : zg_S) (hf : f_J1_canEncode_9a6ad a0 σ = some (r0, σf)) : zM_I l yJ1_canEncode_9a6ad wsJ1_canEncode_9a6ad 0 0 D V XL ad cA [.int a0] σ r0 σf := by
  intro sz
  refine Met.ofW (cc := cJ1_canEncode_9a6ad) (maxL := 1) (ret := (some .boolean)) (by decide) rfl ?_
  intro p e s m args below meth c s₁ B hml hv
  obtain ⟨rfl, hC⟩ := hv
  have hx := B.exec
  have hb := B.bytes
  have hr := B.returns
  have hts := atoms_spec (ws := wsJ1_canEncode_9a6ad) B.pre
  have hown : s.vm.findClass RJ1 = some m.cls := findClass_of_methodNamed B.named
  have hlk := B.notSynchronized
  have X : CallFix p m c cJ1_canEncode_9a6ad 1 s _ wsJ1_canEncode_9a6ad RJ1 := ⟨hx, hb, hml, hown, hts⟩
  have Z := zz_enter hC
  generalize va_A (zg_W XL ad cA σ) sz = A at Z ⊢
  have hl := lv_entry ([.int a0]) (n := 1) (Nat.le_of_ble_eq_true rfl)
  rw [lg_entry_eq]
  generalize (lg_sl ([.int a0]) ++ List.replicate (1 - (lg_sl ([.int a0])).length) Slot.unset).toArray = ls at hl ⊢
  have hl : lv_has ls 1 [(0, .int a0)] := hl
  unfold f_J1_canEncode_9a6ad at hf
  refine lv_iload_n hx hb dJ1_canEncode_9a6ad_0 rfl (lv_at hl 0 rfl) ?_
  refine lv_if_lt (tgt := 15) hx hb dJ1_canEncode_9a6ad_1 (by decide) (fun b1 => ?_) (fun b1 => ?_)
  · have hf2 := zYes hf b1
    clear hf
    refine lv_iconst (v := 0) hx hb dJ1_canEncode_9a6ad_15 (by decide) ?_
    exact zy_zret X hr hlk Z (by decide) (zEnd hf2) dJ1_canEncode_9a6ad_16
  · have hf3 := zNot hf b1
    clear hf
    refine lv_iload_n hx hb dJ1_canEncode_9a6ad_4 rfl (lv_at hl 0 rfl) ?_
    refine lv_sipush (v := 255) hx hb dJ1_canEncode_9a6ad_5 (by decide) ?_
    refine lv_icmp_gt (tgt := 15) hx hb dJ1_canEncode_9a6ad_8 (by decide) (fun b4 => ?_) (fun b4 => ?_)
    · have hf5 := zYes hf3 b4
      clear hf3
      refine lv_iconst (v := 0) hx hb dJ1_canEncode_9a6ad_15 (by decide) ?_
      exact zy_zret X hr hlk Z (by decide) (zEnd hf5) dJ1_canEncode_9a6ad_16
    · have hf6 := zNot hf3 b4
      clear hf3
      refine lv_iconst (v := 1) hx hb dJ1_canEncode_9a6ad_11 (by decide) ?_
      refine lv_goto (tgt := 16) hx hb dJ1_canEncode_9a6ad_12 (by decide) ?_
      exact zy_zret X hr hlk Z (by decide) (zEnd hf6) dJ1_canEncode_9a6ad_16
def B_J1_indexOfChar_4cfef_7 (q0 : Nat) (a1 : Int32) (a2 : Int32) (a3 : Int32) (rec7_ : Int32 → Int32 → zg_S → Option (Int32 × zg_S)) (x4 : Int32) (x5 : Int32) (σ : zg_S) : Option (Int32 × zg_S) := (if a3 ≤ x5 then some ((-1), σ) else (if zin x5 (zz_len.getD q0 0) = true then (if ((zz_byt.getD q0 []).getD (Int32.toNatClampNeg x5) 0) = x4 then some (x5, σ) else rec7_ x4 (x5 + 1) σ) else none))
def L_J1_indexOfChar_4cfef_7 (q0 : Nat) (a1 : Int32) (a2 : Int32) (a3 : Int32) : Nat → Int32 → Int32 → zg_S → Option (Int32 × zg_S) := zfix (fun _ _ _ => none) (B_J1_indexOfChar_4cfef_7 q0 a1 a2 a3)
def f_J1_indexOfChar_4cfef (q0 : Nat) (a1 : Int32) (a2 : Int32) (a3 : Int32) (σ : zg_S) : Option (Int32 × zg_S) := L_J1_indexOfChar_4cfef_7 q0 a1 a2 a3 zfu ((Int32.toInt8 a1).toInt32) a2 σ
set_option maxHeartbeats 4000000 in
set_option maxRecDepth 100000 in
theorem c_J1_indexOfChar_4cfef (l : Launch) (D : va_G) (V : zz_V) (ad : Nat → Nat) (cA : Nat → ClassId) (q0 : Nat) (a1 : Int32) (a2 : Int32) (a3 : Int32) (hq0 : q0 < 6) (σ : zg_S) (r0 : Int32) (σf : zg_S) (hf : f_J1_indexOfChar_4cfef q0 a1 a2 a3 σ = some (r0, σf)) : zM_I l yJ1_indexOfChar_4cfef wsJ1_indexOfChar_4cfef 0 0 D V XL ad cA [.ref (V.2.1 q0), .int a1, .int a2, .int a3] σ r0 σf := by
  intro sz
  refine Met.ofW (cc := cJ1_indexOfChar_4cfef) (maxL := 6) (ret := (some .int)) (by decide) rfl ?_
  intro p e s m args below meth c s₁ B hml hv
  obtain ⟨rfl, hC⟩ := hv
  have hx := B.exec
  have hb := B.bytes
  have hr := B.returns
  have hts := atoms_spec (ws := wsJ1_indexOfChar_4cfef) B.pre
  have hown : s.vm.findClass RJ1 = some m.cls := findClass_of_methodNamed B.named
  have hlk := B.notSynchronized
  have X : CallFix p m c cJ1_indexOfChar_4cfef 6 s _ wsJ1_indexOfChar_4cfef RJ1 := ⟨hx, hb, hml, hown, hts⟩
  have Z := zz_enter hC
  generalize va_A (zg_W XL ad cA σ) sz = A at Z ⊢
  have hl := lv_entry ([.ref (V.2.1 q0), .int a1, .int a2, .int a3]) (n := 6) (Nat.le_of_ble_eq_true rfl)
  rw [lg_entry_eq]
  generalize (lg_sl ([.ref (V.2.1 q0), .int a1, .int a2, .int a3]) ++ List.replicate (6 - (lg_sl ([.ref (V.2.1 q0), .int a1, .int a2, .int a3])).length) Slot.unset).toArray = ls at hl ⊢
  have hl : lv_has ls 6 [(0, .ref (V.2.1 q0)), (1, .int a1), (2, .int a2), (3, .int a3)] := hl
  unfold f_J1_indexOfChar_4cfef at hf
  have b7_ : ∀ (k7_ : Nat) (x4 : Int32) (x5 : Int32) (σ : zg_S), L_J1_indexOfChar_4cfef_7 q0 a1 a2 a3 k7_ x4 x5 σ = some (r0, σf) → ∀ (H : Heap) (locs : List Loc) (ls : Array Slot), zz_S D V A s (zg_W XL ad cA σ) (zg_T XL cA) H locs → lv_has ls 6 [(0, .ref (V.2.1 q0)), (3, .int a3), (4, .int x4), (5, .int x5)] → W p l e (headSpec wsJ1_indexOfChar_4cfef { frames := 0, cells := 0, slots := 0, locals := 0 }).room s m (List.toArray [.ref (V.2.1 q0), .int a1, .int a2, .int a3]) below meth c H locs 0 0 (MQ below (va_Qi (fun r (_ : Unit) => r = r0) (fun _ t => zz_B D A (zg_W XL ad cA σf) (zg_T XL cA) t) A) (List.toArray [.ref (V.2.1 q0), .int a1, .int a2, .int a3]) s 0 0 A) (F0 m 7 ls []) := by
    intro k7_
    induction k7_ with
    | zero =>
        intro x4 x5 σ hf7_ H7_ locs7_ ls7_ Z7_ hl7_
        exact zNone hf7_
    | succ k7_ ih7_ =>
        intro x4 x5 σ hf7_ H7_ locs7_ ls7_ Z7_ hl7_
        replace hf7_ : B_J1_indexOfChar_4cfef_7 q0 a1 a2 a3 (L_J1_indexOfChar_4cfef_7 q0 a1 a2 a3 k7_) x4 x5 σ = some (r0, σf) := hf7_
        unfold B_J1_indexOfChar_4cfef_7 at hf7_
        refine lv_iload hx hb dJ1_indexOfChar_4cfef_7 (lv_at hl7_ 3 rfl) ?_
        refine lv_iload_n hx hb dJ1_indexOfChar_4cfef_9 rfl (lv_at hl7_ 1 rfl) ?_
        refine lv_icmp_ge (tgt := 31) hx hb dJ1_indexOfChar_4cfef_10 (by decide) (fun b1 => ?_) (fun b1 => ?_)
        · have hf2 := zYes hf7_ b1
          clear hf7_
          refine lv_iconst (v := (-1)) hx hb dJ1_indexOfChar_4cfef_31 (by decide) ?_
          exact zy_iret X hr hlk Z7_ (zEnd hf2) dJ1_indexOfChar_4cfef_32
        · have hf3 := zNot hf7_ b1
          clear hf7_
          refine lv_aload_n hx hb dJ1_indexOfChar_4cfef_13 rfl (lv_at hl7_ 0 rfl) ?_
          refine lv_iload hx hb dJ1_indexOfChar_4cfef_14 (lv_at hl7_ 3 rfl) ?_
          obtain ⟨⟨i4, j5⟩, hf6⟩ := zG hf3
          clear hf3
          refine va_tb (v := .int ((zz_byt.getD q0 []).getD (Int32.toNatClampNeg x5) 0)) hx hb (Z7_.2.2.2.2.2.2.2.2.1.1 q0 hq0).2.2.2 Z7_.2.2.2.1 i4 rfl dJ1_indexOfChar_4cfef_16 ?_
          refine lv_iload hx hb dJ1_indexOfChar_4cfef_17 (lv_at hl7_ 2 rfl) ?_
          refine lv_icmp_ne (tgt := 25) hx hb dJ1_indexOfChar_4cfef_19 (by decide) (fun b7 => ?_) (fun b7 => ?_)
          · have hf8 := zNot hf6 b7
            clear hf6
            refine lv_iinc (v := (x5 + 1)) (lv' := [(5, .int (x5 + 1)), (0, .ref (V.2.1 q0)), (3, .int a3), (4, .int x4)]) hx hb dJ1_indexOfChar_4cfef_25 hl7_ (k := 3) rfl rfl (by decide) rfl (fun ls10 hl9 => ?_)
            clear hl7_
            refine lv_goto (tgt := 7) hx hb dJ1_indexOfChar_4cfef_28 (by decide) ?_
            exact ih7_ x4 (x5 + 1) σ hf8 _ _ _ Z7_ (lv_sub hl9 [1, 2, 3, 0] rfl)
          · have hf11 := zYes hf6 b7
            clear hf6
            refine lv_iload hx hb dJ1_indexOfChar_4cfef_22 (lv_at hl7_ 3 rfl) ?_
            exact zy_iret X hr hlk Z7_ (zEnd hf11) dJ1_indexOfChar_4cfef_24
  refine lv_iload_n hx hb dJ1_indexOfChar_4cfef_0 rfl (lv_at hl 1 rfl) ?_
  refine lv_i2b (v := (Int32.toInt8 a1).toInt32) hx hb dJ1_indexOfChar_4cfef_1 rfl ?_
  refine lv_istore (lv' := [(4, .int ((Int32.toInt8 a1).toInt32)), (0, .ref (V.2.1 q0)), (1, .int a1), (2, .int a2), (3, .int a3)]) hx hb dJ1_indexOfChar_4cfef_2 hl (by decide) rfl (fun ls13 hl12 => ?_)
  clear hl
  refine lv_iload_n hx hb dJ1_indexOfChar_4cfef_4 rfl (lv_at hl12 3 rfl) ?_
  refine lv_istore (lv' := [(5, .int a2), (4, .int ((Int32.toInt8 a1).toInt32)), (0, .ref (V.2.1 q0)), (1, .int a1), (2, .int a2), (3, .int a3)]) hx hb dJ1_indexOfChar_4cfef_5 hl12 (by decide) rfl (fun ls15 hl14 => ?_)
  clear hl12
  exact b7_ zfu ((Int32.toInt8 a1).toInt32) a2 σ hf _ _ _ Z (lv_sub hl14 [2, 5, 1, 0] rfl)
def f_J1_indexOf_4cfef (q0 : Nat) (a1 : Int32) (a2 : Int32) (a3 : Int32) (σ : zg_S) : Option (Int32 × zg_S) := zbd (f_J1_canEncode_9a6ad a1 σ) (fun (r1 : Int32) (σ2 : zg_S) => (if r1 = 0 then some ((-1), σ2) else zlet (if (nI (zz_len.getD q0 0)) < a3 then nI (zz_len.getD q0 0) else a3) (fun (y12 : Int32) => (if (if a2 < 0 then 0 else a2) < y12 then zbd (f_J1_indexOfChar_4cfef q0 a1 (if a2 < 0 then 0 else a2) y12 σ2) (fun (r19 : Int32) (σ20 : zg_S) => some (r19, σ20)) else some ((-1), σ2)))))
set_option maxHeartbeats 4000000 in
set_option maxRecDepth 100000 in
theorem c_J1_indexOf_4cfef (l : Launch) (D : va_G) (V : zz_V) (ad : Nat → Nat) (cA : Nat → ClassId) (q0 : Nat) (a1 : Int32) (a2 : Int32) (a3 : Int32) (hq0 : q0 < 6) (σ : zg_S) (r0 : Int32) (σf : zg_S) (hf : f_J1_indexOf_4cfef q0 a1 a2 a3 σ = some (r0, σf)) : zM_I l yJ1_indexOf_4cfef wsJ1_indexOf_4cfef 1 25 D V XL ad cA [.ref (V.2.1 q0), .int a1, .int a2, .int a3] σ r0 σf := by
  intro sz
  refine Met.ofW (cc := cJ1_indexOf_4cfef) (maxL := 4) (ret := (some .int)) (by decide) rfl ?_
  intro p e s m args below meth c s₁ B hml hv
  obtain ⟨rfl, hC⟩ := hv
  have hx := B.exec
  have hb := B.bytes
  have hr := B.returns
  have hts := atoms_spec (ws := wsJ1_indexOf_4cfef) B.pre
  have hown : s.vm.findClass RJ1 = some m.cls := findClass_of_methodNamed B.named
  have hlk := B.notSynchronized
  have X : CallFix p m c cJ1_indexOf_4cfef 4 s _ wsJ1_indexOf_4cfef RJ1 := ⟨hx, hb, hml, hown, hts⟩
  have Z := zz_enter hC
  generalize va_A (zg_W XL ad cA σ) sz = A at Z ⊢
  have hl := lv_entry ([.ref (V.2.1 q0), .int a1, .int a2, .int a3]) (n := 4) (Nat.le_of_ble_eq_true rfl)
  rw [lg_entry_eq]
  generalize (lg_sl ([.ref (V.2.1 q0), .int a1, .int a2, .int a3]) ++ List.replicate (4 - (lg_sl ([.ref (V.2.1 q0), .int a1, .int a2, .int a3])).length) Slot.unset).toArray = ls at hl ⊢
  have hl : lv_has ls 4 [(0, .ref (V.2.1 q0)), (1, .int a1), (2, .int a2), (3, .int a3)] := hl
  unfold f_J1_indexOf_4cfef at hf
  refine lv_iload_n hx hb dJ1_indexOf_4cfef_0 rfl (lv_at hl 1 rfl) ?_
  obtain ⟨r1, σ2, hc3, hf4⟩ := zBd hf
  clear hf
  refine zy_ci (r0 := r1) (WS1 := zg_W XL ad cA σ2) (TYS1 := zg_T XL cA) Z (va_runS (As := [.int a1]) (rest := []) X (c_J1_canEncode_9a6ad l D V ad cA a1 σ r1 σ2 hc3 s.heap.size) (va_cwS 1 hts gJ1_indexOf_4cfef_J1_canEncode_9a6ad rfl rfl rfl zh_J1_canEncode_9a6ad ⟨Nat.le_of_ble_eq_true rfl, Nat.le_of_ble_eq_true rfl⟩) (zz_pS Z) rfl rfl hl.1 rfl (lv_room (Nat.le_of_ble_eq_true rfl)) dJ1_indexOf_4cfef_1 ⟨Nat.le_of_ble_eq_true rfl, Nat.le_of_ble_eq_true rfl⟩) (fun H5 lo6 Z7 => ?_)
  clear Z hc3
  refine lv_if_ne (tgt := 9) hx hb dJ1_indexOf_4cfef_4 (by decide) (fun b8 => ?_) (fun b8 => ?_)
  · have hf9 := zNot hf4 b8
    clear hf4
    refine lv_iload_n hx hb dJ1_indexOf_4cfef_9 rfl (lv_at hl 2 rfl) ?_
    refine lv_iconst (v := 0) hx hb dJ1_indexOf_4cfef_10 (by decide) ?_
    refine va_mmax hx hb (by rw [hml]; exact hl.1.symm) hown (hts _ (zz_m 1 rfl)) (hts _ (zz_m 2 rfl)) (hts _ (zz_m 3 rfl)) (hts _ (zz_m 4 rfl)) (Nat.le_of_ble_eq_true rfl) (Nat.le_of_ble_eq_true rfl) (Nat.le_of_ble_eq_true rfl) (Nat.le_of_ble_eq_true rfl) dJ1_indexOf_4cfef_11 ?_
    refine lv_istore_n (lv' := [(2, .int (if a2 < 0 then 0 else a2)), (0, .ref (V.2.1 q0)), (1, .int a1), (3, .int a3)]) hx hb dJ1_indexOf_4cfef_14 rfl hl (by decide) rfl (fun ls11 hl10 => ?_)
    clear hl
    refine lv_iload_n hx hb dJ1_indexOf_4cfef_15 rfl (lv_at hl10 3 rfl) ?_
    refine lv_aload_n hx hb dJ1_indexOf_4cfef_16 rfl (lv_at hl10 1 rfl) ?_
    refine va_tlen (v := nI (zz_len.getD q0 0)) hx hb (Z7.2.2.2.2.2.2.2.2.1.1 q0 hq0).2.2.2 Z7.2.2.2.1 rfl dJ1_indexOf_4cfef_17 ?_
    refine va_mmin hx hb (by rw [hml]; exact hl10.1.symm) hown (hts _ (zz_m 5 rfl)) (hts _ (zz_m 6 rfl)) (hts _ (zz_m 3 rfl)) (hts _ (zz_m 7 rfl)) (Nat.le_of_ble_eq_true rfl) (Nat.le_of_ble_eq_true rfl) (Nat.le_of_ble_eq_true rfl) (Nat.le_of_ble_eq_true rfl) dJ1_indexOf_4cfef_18 ?_
    obtain ⟨y12, ey13, hf14⟩ := zLet hf9
    clear hf9
    refine zz_v (v := y12) ey13.symm ?_
    clear ey13
    refine lv_istore_n (lv' := [(3, .int y12), (2, .int (if a2 < 0 then 0 else a2)), (0, .ref (V.2.1 q0)), (1, .int a1)]) hx hb dJ1_indexOf_4cfef_21 rfl hl10 (by decide) rfl (fun ls16 hl15 => ?_)
    clear hl10
    refine lv_iload_n hx hb dJ1_indexOf_4cfef_22 rfl (lv_at hl15 1 rfl) ?_
    refine lv_iload_n hx hb dJ1_indexOf_4cfef_23 rfl (lv_at hl15 0 rfl) ?_
    refine lv_icmp_lt (tgt := 29) hx hb dJ1_indexOf_4cfef_24 (by decide) (fun b17 => ?_) (fun b17 => ?_)
    · have hf18 := zYes hf14 b17
      clear hf14
      refine lv_aload_n hx hb dJ1_indexOf_4cfef_29 rfl (lv_at hl15 2 rfl) ?_
      refine lv_iload_n hx hb dJ1_indexOf_4cfef_30 rfl (lv_at hl15 3 rfl) ?_
      refine lv_iload_n hx hb dJ1_indexOf_4cfef_31 rfl (lv_at hl15 1 rfl) ?_
      refine lv_iload_n hx hb dJ1_indexOf_4cfef_32 rfl (lv_at hl15 0 rfl) ?_
      obtain ⟨r19, σ20, hc21, hf22⟩ := zBd hf18
      clear hf18
      refine zy_ci (r0 := r19) (WS1 := zg_W XL ad cA σ20) (TYS1 := zg_T XL cA) Z7 (va_runS (As := [.ref (V.2.1 q0), .int a1, .int (if a2 < 0 then 0 else a2), .int y12]) (rest := []) X (c_J1_indexOfChar_4cfef l D V ad cA q0 a1 (if a2 < 0 then 0 else a2) y12 hq0 σ2 r19 σ20 hc21 H5.size) (va_cwS 4 hts gJ1_indexOf_4cfef_J1_indexOfChar_4cfef rfl rfl rfl zh_J1_indexOfChar_4cfef ⟨Nat.le_of_ble_eq_true rfl, Nat.le_of_ble_eq_true rfl⟩) (zz_pS Z7) rfl rfl hl15.1 rfl (lv_room (Nat.le_of_ble_eq_true rfl)) dJ1_indexOf_4cfef_33 ⟨Nat.le_of_ble_eq_true rfl, Nat.le_of_ble_eq_true rfl⟩) (fun H23 lo24 Z25 => ?_)
      clear Z7 hc21
      exact zy_iret X hr hlk Z25 (zEnd hf22) dJ1_indexOf_4cfef_36
    · have hf26 := zNot hf14 b17
      clear hf14
      refine lv_iconst (v := (-1)) hx hb dJ1_indexOf_4cfef_27 (by decide) ?_
      exact zy_iret X hr hlk Z7 (zEnd hf26) dJ1_indexOf_4cfef_28
  · have hf27 := zYes hf4 b8
    clear hf4
    refine lv_iconst (v := (-1)) hx hb dJ1_indexOf_4cfef_7 (by decide) ?_
    exact zy_iret X hr hlk Z7 (zEnd hf27) dJ1_indexOf_4cfef_8
def f_J0_indexOf_7cf53 (q0 : Nat) (a1 : Int32) (a2 : Int32) (σ : zg_S) : Option (Int32 × zg_S) := zbd (f_J0_isLatin1_aae02 q0 σ) (fun (r1 : Int32) (σ2 : zg_S) => (if r1 = 0 then none else zbd (f_J0_length_8abf5 q0 σ2) (fun (r11 : Int32) (σ12 : zg_S) => zbd (f_J1_indexOf_4cfef q0 a1 a2 r11 σ12) (fun (r18 : Int32) (σ19 : zg_S) => some (r18, σ19)))))
set_option maxHeartbeats 4000000 in
set_option maxRecDepth 100000 in
theorem c_J0_indexOf_7cf53 (l : Launch) (D : va_G) (V : zz_V) (ad : Nat → Nat) (cA : Nat → ClassId) (q0 : Nat) (a1 : Int32) (a2 : Int32) (hq0 : q0 < 6) (σ : zg_S) (r0 : Int32) (σf : zg_S) (hf : f_J0_indexOf_7cf53 q0 a1 a2 σ = some (r0, σf)) : zM_I l yJ0_indexOf_7cf53 wsJ0_indexOf_7cf53 2 48 D V XL ad cA [.ref (V.1 q0), .int a1, .int a2] σ r0 σf := by
  intro sz
  refine Met.ofW (cc := cJ0_indexOf_7cf53) (maxL := 3) (ret := (some .int)) (by decide) rfl ?_
  intro p e s m args below meth c s₁ B hml hv
  obtain ⟨rfl, hC⟩ := hv
  have hx := B.exec
  have hb := B.bytes
  have hr := B.returns
  have hts := atoms_spec (ws := wsJ0_indexOf_7cf53) B.pre
  have hown : s.vm.findClass RJ0 = some m.cls := findClass_of_methodNamed B.named
  have hlk := B.notSynchronized
  have X : CallFix p m c cJ0_indexOf_7cf53 3 s _ wsJ0_indexOf_7cf53 RJ0 := ⟨hx, hb, hml, hown, hts⟩
  have Z := zz_enter hC
  generalize va_A (zg_W XL ad cA σ) sz = A at Z ⊢
  have hl := lv_entry ([.ref (V.1 q0), .int a1, .int a2]) (n := 3) (Nat.le_of_ble_eq_true rfl)
  rw [lg_entry_eq]
  generalize (lg_sl ([.ref (V.1 q0), .int a1, .int a2]) ++ List.replicate (3 - (lg_sl ([.ref (V.1 q0), .int a1, .int a2])).length) Slot.unset).toArray = ls at hl ⊢
  have hl : lv_has ls 3 [(0, .ref (V.1 q0)), (1, .int a1), (2, .int a2)] := hl
  unfold f_J0_indexOf_7cf53 at hf
  refine lv_aload_n hx hb dJ0_indexOf_7cf53_0 rfl (lv_at hl 0 rfl) ?_
  obtain ⟨r1, σ2, hc3, hf4⟩ := zBd hf
  clear hf
  refine zy_ci (r0 := r1) (WS1 := zg_W XL ad cA σ2) (TYS1 := zg_T XL cA) Z (va_runV (As := []) (rest := []) X (c_J0_isLatin1_aae02 l D V ad cA q0 hq0 σ r1 σ2 hc3 s.heap.size) (cwV 0 hts gJ0_indexOf_7cf53_J0_isLatin1_aae02 rfl rfl rfl ⟨rfl, zh_J0_isLatin1_aae02⟩ ⟨Nat.le_of_ble_eq_true rfl, Nat.le_of_ble_eq_true rfl⟩) (zy_pVs Z hq0) rfl rfl hl.1 rfl (lv_room (Nat.le_of_ble_eq_true rfl)) dJ0_indexOf_7cf53_1 ⟨Nat.le_of_ble_eq_true rfl, Nat.le_of_ble_eq_true rfl⟩) (fun H5 lo6 Z7 => ?_)
  clear Z hc3
  refine lv_if_eq (tgt := 23) hx hb dJ0_indexOf_7cf53_4 (by decide) (fun b8 => ?_) (fun b8 => ?_)
  · have hf9 := zYes hf4 b8
    clear hf4
    exact zNone hf9
  · have hf10 := zNot hf4 b8
    clear hf4
    refine lv_aload_n hx hb dJ0_indexOf_7cf53_7 rfl (lv_at hl 0 rfl) ?_
    refine vk_getf hx hb (Z7.2.2.2.2.2.2.2.2.1.1 q0 hq0).2.2.1 Z7.2.2.2.1 hown (hts _ (zz_m 1 rfl)) (fun _ h => h) dJ0_indexOf_7cf53_8 ?_
    refine lv_iload_n hx hb dJ0_indexOf_7cf53_11 rfl (lv_at hl 1 rfl) ?_
    refine lv_iload_n hx hb dJ0_indexOf_7cf53_12 rfl (lv_at hl 2 rfl) ?_
    refine lv_aload_n hx hb dJ0_indexOf_7cf53_13 rfl (lv_at hl 0 rfl) ?_
    obtain ⟨r11, σ12, hc13, hf14⟩ := zBd hf10
    clear hf10
    refine zy_ci (r0 := r11) (WS1 := zg_W XL ad cA σ12) (TYS1 := zg_T XL cA) Z7 (va_runV (As := []) (rest := [.int a2, .int a1, .ref (V.2.1 q0)]) X (c_J0_length_8abf5 l D V ad cA q0 hq0 σ2 r11 σ12 hc13 H5.size) (cwV 0 hts gJ0_indexOf_7cf53_J0_length_8abf5 rfl rfl rfl ⟨rfl, zh_J0_length_8abf5⟩ ⟨Nat.le_of_ble_eq_true rfl, Nat.le_of_ble_eq_true rfl⟩) (zy_pVs Z7 hq0) rfl rfl hl.1 rfl (lv_room (Nat.le_of_ble_eq_true rfl)) dJ0_indexOf_7cf53_14 ⟨Nat.le_of_ble_eq_true rfl, Nat.le_of_ble_eq_true rfl⟩) (fun H15 lo16 Z17 => ?_)
    clear Z7 hc13
    obtain ⟨r18, σ19, hc20, hf21⟩ := zBd hf14
    clear hf14
    refine zy_ci (r0 := r18) (WS1 := zg_W XL ad cA σ19) (TYS1 := zg_T XL cA) Z17 (va_runS (As := [.ref (V.2.1 q0), .int a1, .int a2, .int r11]) (rest := []) X (c_J1_indexOf_4cfef l D V ad cA q0 a1 a2 r11 hq0 σ12 r18 σ19 hc20 H15.size) (va_cwS 4 hts gJ0_indexOf_7cf53_J1_indexOf_4cfef rfl rfl rfl zh_J1_indexOf_4cfef ⟨Nat.le_of_ble_eq_true rfl, Nat.le_of_ble_eq_true rfl⟩) (zz_pS Z17) rfl rfl hl.1 rfl (lv_room (Nat.le_of_ble_eq_true rfl)) dJ0_indexOf_7cf53_17 ⟨Nat.le_of_ble_eq_true rfl, Nat.le_of_ble_eq_true rfl⟩) (fun H22 lo23 Z24 => ?_)
    clear Z17 hc20
    refine lv_goto (tgt := 36) hx hb dJ0_indexOf_7cf53_20 (by decide) ?_
    exact zy_iret X hr hlk Z24 (zEnd hf21) dJ0_indexOf_7cf53_36
def f_J0_indexOf_0f7a4 (q0 : Nat) (a1 : Int32) (σ : zg_S) : Option (Int32 × zg_S) := zbd (f_J0_indexOf_7cf53 q0 a1 0 σ) (fun (r1 : Int32) (σ2 : zg_S) => some (r1, σ2))
set_option maxHeartbeats 4000000 in
set_option maxRecDepth 100000 in
theorem c_J0_indexOf_0f7a4 (l : Launch) (D : va_G) (V : zz_V) (ad : Nat → Nat) (cA : Nat → ClassId) (q0 : Nat) (a1 : Int32) (hq0 : q0 < 6) (σ : zg_S) (r0 : Int32) (σf : zg_S) (hf : f_J0_indexOf_0f7a4 q0 a1 σ = some (r0, σf)) : zM_I l yJ0_indexOf_0f7a4 wsJ0_indexOf_0f7a4 3 70 D V XL ad cA [.ref (V.1 q0), .int a1] σ r0 σf := by
  intro sz
  refine Met.ofW (cc := cJ0_indexOf_0f7a4) (maxL := 2) (ret := (some .int)) (by decide) rfl ?_
  intro p e s m args below meth c s₁ B hml hv
  obtain ⟨rfl, hC⟩ := hv
  have hx := B.exec
  have hb := B.bytes
  have hr := B.returns
  have hts := atoms_spec (ws := wsJ0_indexOf_0f7a4) B.pre
  have hown : s.vm.findClass RJ0 = some m.cls := findClass_of_methodNamed B.named
  have hlk := B.notSynchronized
  have X : CallFix p m c cJ0_indexOf_0f7a4 2 s _ wsJ0_indexOf_0f7a4 RJ0 := ⟨hx, hb, hml, hown, hts⟩
  have Z := zz_enter hC
  generalize va_A (zg_W XL ad cA σ) sz = A at Z ⊢
  have hl := lv_entry ([.ref (V.1 q0), .int a1]) (n := 2) (Nat.le_of_ble_eq_true rfl)
  rw [lg_entry_eq]
  generalize (lg_sl ([.ref (V.1 q0), .int a1]) ++ List.replicate (2 - (lg_sl ([.ref (V.1 q0), .int a1])).length) Slot.unset).toArray = ls at hl ⊢
  have hl : lv_has ls 2 [(0, .ref (V.1 q0)), (1, .int a1)] := hl
  unfold f_J0_indexOf_0f7a4 at hf
  refine lv_aload_n hx hb dJ0_indexOf_0f7a4_0 rfl (lv_at hl 0 rfl) ?_
  refine lv_iload_n hx hb dJ0_indexOf_0f7a4_1 rfl (lv_at hl 1 rfl) ?_
  refine lv_iconst (v := 0) hx hb dJ0_indexOf_0f7a4_2 (by decide) ?_
  obtain ⟨r1, σ2, hc3, hf4⟩ := zBd hf
  clear hf
  refine zy_ci (r0 := r1) (WS1 := zg_W XL ad cA σ2) (TYS1 := zg_T XL cA) Z (va_runV (As := [.int a1, .int 0]) (rest := []) X (c_J0_indexOf_7cf53 l D V ad cA q0 a1 0 hq0 σ r1 σ2 hc3 s.heap.size) (cwV 2 hts gJ0_indexOf_0f7a4_J0_indexOf_7cf53 rfl rfl rfl ⟨rfl, zh_J0_indexOf_7cf53⟩ ⟨Nat.le_of_ble_eq_true rfl, Nat.le_of_ble_eq_true rfl⟩) (zy_pVs Z hq0) rfl rfl hl.1 rfl (lv_room (Nat.le_of_ble_eq_true rfl)) dJ0_indexOf_0f7a4_3 ⟨Nat.le_of_ble_eq_true rfl, Nat.le_of_ble_eq_true rfl⟩) (fun H5 lo6 Z7 => ?_)
  clear Z hc3
  exact zy_iret X hr hlk Z7 (zEnd hf4) dJ0_indexOf_0f7a4_6
def f_J6_bitCount_0f7a4 (a0 : Int32) (σ : zg_S) : Option (Int32 × zg_S) := zlet (a0 - (((Int32.toUInt32 a0 >>> (Int32.toUInt32 1 &&& Int32.toUInt32 31)).toInt32) &&& 1431655765)) (fun (y1 : Int32) => zlet ((y1 &&& 858993459) + (((Int32.toUInt32 y1 >>> (Int32.toUInt32 2 &&& Int32.toUInt32 31)).toInt32) &&& 858993459)) (fun (y6 : Int32) => zlet ((y6 + ((Int32.toUInt32 y6 >>> (Int32.toUInt32 4 &&& Int32.toUInt32 31)).toInt32)) &&& 252645135) (fun (y11 : Int32) => zlet (y11 + ((Int32.toUInt32 y11 >>> (Int32.toUInt32 8 &&& Int32.toUInt32 31)).toInt32)) (fun (y16 : Int32) => zlet (y16 + ((Int32.toUInt32 y16 >>> (Int32.toUInt32 16 &&& Int32.toUInt32 31)).toInt32)) (fun (y21 : Int32) => some (y21 &&& 63, σ))))))
set_option maxHeartbeats 4000000 in
set_option maxRecDepth 100000 in
theorem c_J6_bitCount_0f7a4 (l : Launch) (D : va_G) (V : zz_V) (ad : Nat → Nat) (cA : Nat → ClassId) (a0 : Int32)  (σ : zg_S) (r0 : Int32) (σf : zg_S) (hf : f_J6_bitCount_0f7a4 a0 σ = some (r0, σf)) : zM_I l yJ6_bitCount_0f7a4 wsJ6_bitCount_0f7a4 0 0 D V XL ad cA [.int a0] σ r0 σf := by
  intro sz
  refine Met.ofW (cc := cJ6_bitCount_0f7a4) (maxL := 1) (ret := (some .int)) (by decide) rfl ?_
  intro p e s m args below meth c s₁ B hml hv
  obtain ⟨rfl, hC⟩ := hv
  have hx := B.exec
  have hb := B.bytes
  have hr := B.returns
  have hts := atoms_spec (ws := wsJ6_bitCount_0f7a4) B.pre
  have hown : s.vm.findClass RJ6 = some m.cls := findClass_of_methodNamed B.named
  have hlk := B.notSynchronized
  have X : CallFix p m c cJ6_bitCount_0f7a4 1 s _ wsJ6_bitCount_0f7a4 RJ6 := ⟨hx, hb, hml, hown, hts⟩
  have Z := zz_enter hC
  generalize va_A (zg_W XL ad cA σ) sz = A at Z ⊢
  have hl := lv_entry ([.int a0]) (n := 1) (Nat.le_of_ble_eq_true rfl)
  rw [lg_entry_eq]
  generalize (lg_sl ([.int a0]) ++ List.replicate (1 - (lg_sl ([.int a0])).length) Slot.unset).toArray = ls at hl ⊢
  have hl : lv_has ls 1 [(0, .int a0)] := hl
  unfold f_J6_bitCount_0f7a4 at hf
  refine lv_iload_n hx hb dJ6_bitCount_0f7a4_0 rfl (lv_at hl 0 rfl) ?_
  refine lv_iload_n hx hb dJ6_bitCount_0f7a4_1 rfl (lv_at hl 0 rfl) ?_
  refine lv_iconst (v := 1) hx hb dJ6_bitCount_0f7a4_2 (by decide) ?_
  refine lv_iushr (v := (Int32.toUInt32 a0 >>> (Int32.toUInt32 1 &&& Int32.toUInt32 31)).toInt32) hx hb dJ6_bitCount_0f7a4_3 rfl ?_
  refine lv_ldcw (v := 1431655765) hx hb hown (hts _ (zz_m 1 rfl)) dJ6_bitCount_0f7a4_4 ?_
  refine lv_iand hx hb dJ6_bitCount_0f7a4_7 ?_
  refine lv_isub hx hb dJ6_bitCount_0f7a4_8 ?_
  obtain ⟨y1, ey2, hf3⟩ := zLet hf
  clear hf
  refine zz_v (v := y1) ey2.symm ?_
  clear ey2
  refine lv_istore_n (lv' := [(0, .int y1)]) hx hb dJ6_bitCount_0f7a4_9 rfl hl (by decide) rfl (fun ls5 hl4 => ?_)
  clear hl
  refine lv_iload_n hx hb dJ6_bitCount_0f7a4_10 rfl (lv_at hl4 0 rfl) ?_
  refine lv_ldcw (v := 858993459) hx hb hown (hts _ (zz_m 2 rfl)) dJ6_bitCount_0f7a4_11 ?_
  refine lv_iand hx hb dJ6_bitCount_0f7a4_14 ?_
  refine lv_iload_n hx hb dJ6_bitCount_0f7a4_15 rfl (lv_at hl4 0 rfl) ?_
  refine lv_iconst (v := 2) hx hb dJ6_bitCount_0f7a4_16 (by decide) ?_
  refine lv_iushr (v := (Int32.toUInt32 y1 >>> (Int32.toUInt32 2 &&& Int32.toUInt32 31)).toInt32) hx hb dJ6_bitCount_0f7a4_17 rfl ?_
  refine lv_ldcw (v := 858993459) hx hb hown (hts _ (zz_m 2 rfl)) dJ6_bitCount_0f7a4_18 ?_
  refine lv_iand hx hb dJ6_bitCount_0f7a4_21 ?_
  refine lv_iadd hx hb dJ6_bitCount_0f7a4_22 ?_
  obtain ⟨y6, ey7, hf8⟩ := zLet hf3
  clear hf3
  refine zz_v (v := y6) ey7.symm ?_
  clear ey7
  refine lv_istore_n (lv' := [(0, .int y6)]) hx hb dJ6_bitCount_0f7a4_23 rfl hl4 (by decide) rfl (fun ls10 hl9 => ?_)
  clear hl4
  refine lv_iload_n hx hb dJ6_bitCount_0f7a4_24 rfl (lv_at hl9 0 rfl) ?_
  refine lv_iload_n hx hb dJ6_bitCount_0f7a4_25 rfl (lv_at hl9 0 rfl) ?_
  refine lv_iconst (v := 4) hx hb dJ6_bitCount_0f7a4_26 (by decide) ?_
  refine lv_iushr (v := (Int32.toUInt32 y6 >>> (Int32.toUInt32 4 &&& Int32.toUInt32 31)).toInt32) hx hb dJ6_bitCount_0f7a4_27 rfl ?_
  refine lv_iadd hx hb dJ6_bitCount_0f7a4_28 ?_
  refine lv_ldcw (v := 252645135) hx hb hown (hts _ (zz_m 3 rfl)) dJ6_bitCount_0f7a4_29 ?_
  refine lv_iand hx hb dJ6_bitCount_0f7a4_32 ?_
  obtain ⟨y11, ey12, hf13⟩ := zLet hf8
  clear hf8
  refine zz_v (v := y11) ey12.symm ?_
  clear ey12
  refine lv_istore_n (lv' := [(0, .int y11)]) hx hb dJ6_bitCount_0f7a4_33 rfl hl9 (by decide) rfl (fun ls15 hl14 => ?_)
  clear hl9
  refine lv_iload_n hx hb dJ6_bitCount_0f7a4_34 rfl (lv_at hl14 0 rfl) ?_
  refine lv_iload_n hx hb dJ6_bitCount_0f7a4_35 rfl (lv_at hl14 0 rfl) ?_
  refine lv_bipush (v := 8) hx hb dJ6_bitCount_0f7a4_36 (by decide) ?_
  refine lv_iushr (v := (Int32.toUInt32 y11 >>> (Int32.toUInt32 8 &&& Int32.toUInt32 31)).toInt32) hx hb dJ6_bitCount_0f7a4_38 rfl ?_
  refine lv_iadd hx hb dJ6_bitCount_0f7a4_39 ?_
  obtain ⟨y16, ey17, hf18⟩ := zLet hf13
  clear hf13
  refine zz_v (v := y16) ey17.symm ?_
  clear ey17
  refine lv_istore_n (lv' := [(0, .int y16)]) hx hb dJ6_bitCount_0f7a4_40 rfl hl14 (by decide) rfl (fun ls20 hl19 => ?_)
  clear hl14
  refine lv_iload_n hx hb dJ6_bitCount_0f7a4_41 rfl (lv_at hl19 0 rfl) ?_
  refine lv_iload_n hx hb dJ6_bitCount_0f7a4_42 rfl (lv_at hl19 0 rfl) ?_
  refine lv_bipush (v := 16) hx hb dJ6_bitCount_0f7a4_43 (by decide) ?_
  refine lv_iushr (v := (Int32.toUInt32 y16 >>> (Int32.toUInt32 16 &&& Int32.toUInt32 31)).toInt32) hx hb dJ6_bitCount_0f7a4_45 rfl ?_
  refine lv_iadd hx hb dJ6_bitCount_0f7a4_46 ?_
  obtain ⟨y21, ey22, hf23⟩ := zLet hf18
  clear hf18
  refine zz_v (v := y21) ey22.symm ?_
  clear ey22
  refine lv_istore_n (lv' := [(0, .int y21)]) hx hb dJ6_bitCount_0f7a4_47 rfl hl19 (by decide) rfl (fun ls25 hl24 => ?_)
  clear hl19
  refine lv_iload_n hx hb dJ6_bitCount_0f7a4_48 rfl (lv_at hl24 0 rfl) ?_
  refine lv_bipush (v := 63) hx hb dJ6_bitCount_0f7a4_49 (by decide) ?_
  refine lv_iand hx hb dJ6_bitCount_0f7a4_51 ?_
  exact zy_iret X hr hlk Z (zEnd hf23) dJ6_bitCount_0f7a4_52
def B_X0_allGoods_4 (q0 : Nat) (rec4_ : Int32 → Int32 → zg_S → Option (Int32 × zg_S)) (x1 : Int32) (x2 : Int32) (σ : zg_S) : Option (Int32 × zg_S) := (if (σ q0 3) ≤ x2 then some (x1, σ) else (if zin x2 9 = true then zlet (x1 + (σ ((q0 + 1) + 2 + (Int32.toNatClampNeg x2)) 2)) (fun (y7 : Int32) => rec4_ y7 (x2 + 1) σ) else none))
def L_X0_allGoods_4 (q0 : Nat) : Nat → Int32 → Int32 → zg_S → Option (Int32 × zg_S) := zfix (fun _ _ _ => none) (B_X0_allGoods_4 q0)
def f_X0_allGoods (q0 : Nat) (σ : zg_S) : Option (Int32 × zg_S) := L_X0_allGoods_4 q0 zfu 0 0 σ
set_option maxHeartbeats 4000000 in
set_option maxRecDepth 100000 in
theorem c_X0_allGoods (l : Launch) (D : va_G) (V : zz_V) (ad : Nat → Nat) (cA : Nat → ClassId) (q0 : Nat) (hq0 : XL.2.1 q0 = 0) (σ : zg_S) (r0 : Int32) (σf : zg_S) (hf : f_X0_allGoods q0 σ = some (r0, σf)) : zM_I l yX0_allGoods wsX0_allGoods 0 0 D V XL ad cA [.ref (ad q0)] σ r0 σf := by
  intro sz
  refine Met.ofW (cc := cX0_allGoods) (maxL := 3) (ret := (some .int)) (by decide) rfl ?_
  intro p e s m args below meth c s₁ B hml hv
  obtain ⟨rfl, hC⟩ := hv
  have hx := B.exec
  have hb := B.bytes
  have hr := B.returns
  have hts := atoms_spec (ws := wsX0_allGoods) B.pre
  have hown : s.vm.findClass RX0 = some m.cls := findClass_of_methodNamed B.named
  have hlk := B.notSynchronized
  have X : CallFix p m c cX0_allGoods 3 s _ wsX0_allGoods RX0 := ⟨hx, hb, hml, hown, hts⟩
  have Z := zz_enter hC
  generalize va_A (zg_W XL ad cA σ) sz = A at Z ⊢
  have hl := lv_entry ([.ref (ad q0)]) (n := 3) (Nat.le_of_ble_eq_true rfl)
  rw [lg_entry_eq]
  generalize (lg_sl ([.ref (ad q0)]) ++ List.replicate (3 - (lg_sl ([.ref (ad q0)])).length) Slot.unset).toArray = ls at hl ⊢
  have hl : lv_has ls 3 [(0, .ref (ad q0))] := hl
  unfold f_X0_allGoods at hf
  have b4_ : ∀ (k4_ : Nat) (x1 : Int32) (x2 : Int32) (σ : zg_S), L_X0_allGoods_4 q0 k4_ x1 x2 σ = some (r0, σf) → ∀ (H : Heap) (locs : List Loc) (ls : Array Slot), zz_S D V A s (zg_W XL ad cA σ) (zg_T XL cA) H locs → lv_has ls 3 [(0, .ref (ad q0)), (1, .int x1), (2, .int x2)] → W p l e (headSpec wsX0_allGoods { frames := 0, cells := 0, slots := 0, locals := 0 }).room s m (List.toArray [.ref (ad q0)]) below meth c H locs 0 0 (MQ below (va_Qi (fun r (_ : Unit) => r = r0) (fun _ t => zz_B D A (zg_W XL ad cA σf) (zg_T XL cA) t) A) (List.toArray [.ref (ad q0)]) s 0 0 A) (F0 m 4 ls []) := by
    intro k4_
    induction k4_ with
    | zero =>
        intro x1 x2 σ hf4_ H4_ locs4_ ls4_ Z4_ hl4_
        exact zNone hf4_
    | succ k4_ ih4_ =>
        intro x1 x2 σ hf4_ H4_ locs4_ ls4_ Z4_ hl4_
        replace hf4_ : B_X0_allGoods_4 q0 (L_X0_allGoods_4 q0 k4_) x1 x2 σ = some (r0, σf) := hf4_
        unfold B_X0_allGoods_4 at hf4_
        refine lv_iload_n hx hb dX0_allGoods_4 rfl (lv_at hl4_ 2 rfl) ?_
        refine lv_aload_n hx hb dX0_allGoods_5 rfl (lv_at hl4_ 0 rfl) ?_
        refine zy_get (v := .int (σ q0 3)) X Z4_ xL_ok hq0 rfl rfl (fun w h => List.mem_cons_of_mem _ (List.mem_append_left _ (List.mem_append_right _ h))) 3 rfl (zz_m 1 rfl) rfl dX0_allGoods_6 ?_
        refine lv_icmp_ge (tgt := 30) hx hb dX0_allGoods_9 (by decide) (fun b1 => ?_) (fun b1 => ?_)
        · have hf2 := zYes hf4_ b1
          clear hf4_
          refine lv_iload_n hx hb dX0_allGoods_30 rfl (lv_at hl4_ 1 rfl) ?_
          exact zy_iret X hr hlk Z4_ (zEnd hf2) dX0_allGoods_31
        · have hf3 := zNot hf4_ b1
          clear hf4_
          refine lv_iload_n hx hb dX0_allGoods_12 rfl (lv_at hl4_ 1 rfl) ?_
          refine lv_aload_n hx hb dX0_allGoods_13 rfl (lv_at hl4_ 0 rfl) ?_
          refine zy_get (v := .ref (ad (q0 + 1))) X Z4_ xL_ok hq0 rfl rfl (fun w h => List.mem_cons_of_mem _ (List.mem_append_left _ (List.mem_append_right _ h))) 1 rfl (zz_m 2 rfl) rfl dX0_allGoods_14 ?_
          refine lv_iload_n hx hb dX0_allGoods_17 rfl (lv_at hl4_ 2 rfl) ?_
          obtain ⟨⟨i4, j5⟩, hf6⟩ := zG hf3
          clear hf3
          refine zy_ald (v := ((q0 + 1) + 2 + (Int32.toNatClampNeg x2))) (C := RX4) X Z4_ xL_ok (xB1 hq0) rfl rfl (xB1l hq0) rfl i4 rfl dX0_allGoods_18 ?_
          refine zy_get (v := .int (σ ((q0 + 1) + 2 + (Int32.toNatClampNeg x2)) 2)) X Z4_ xL_ok (xS (xB1 hq0) j5) rfl rfl (fun w h => List.mem_cons_of_mem _ (List.mem_append_right _ h)) 2 rfl (zz_m 3 rfl) rfl dX0_allGoods_19 ?_
          refine lv_iadd hx hb dX0_allGoods_22 ?_
          obtain ⟨y7, ey8, hf9⟩ := zLet hf6
          clear hf6
          refine zz_v (v := y7) ey8.symm ?_
          clear ey8
          refine lv_istore_n (lv' := [(1, .int y7), (0, .ref (ad q0)), (2, .int x2)]) hx hb dX0_allGoods_23 rfl hl4_ (by decide) rfl (fun ls11 hl10 => ?_)
          clear hl4_
          refine lv_iinc (v := (x2 + 1)) (lv' := [(2, .int (x2 + 1)), (1, .int y7), (0, .ref (ad q0))]) hx hb dX0_allGoods_24 hl10 (k := 2) rfl rfl (by decide) rfl (fun ls13 hl12 => ?_)
          clear hl10
          refine lv_goto (tgt := 4) hx hb dX0_allGoods_27 (by decide) ?_
          exact ih4_ y7 (x2 + 1) σ hf9 _ _ _ Z4_ (lv_sub hl12 [2, 1, 0] rfl)
  refine lv_iconst (v := 0) hx hb dX0_allGoods_0 (by decide) ?_
  refine lv_istore_n (lv' := [(1, .int 0), (0, .ref (ad q0))]) hx hb dX0_allGoods_1 rfl hl (by decide) rfl (fun ls15 hl14 => ?_)
  clear hl
  refine lv_iconst (v := 0) hx hb dX0_allGoods_2 (by decide) ?_
  refine lv_istore_n (lv' := [(2, .int 0), (1, .int 0), (0, .ref (ad q0))]) hx hb dX0_allGoods_3 rfl hl14 (by decide) rfl (fun ls17 hl16 => ?_)
  clear hl14
  exact b4_ zfu 0 0 σ hf _ _ _ Z (lv_sub hl16 [2, 1, 0] rfl)
def f_X0_draw (q0 : Nat) (σ : zg_S) : Option (Int32 × zg_S) := zlet (((σ q0 13) * 1103515245) + 12345) (fun (y1 : Int32) => zlet (zg_up σ q0 13 y1) (fun (σ4 : zg_S) => some ((Int32.toUInt32 (σ4 q0 13) >>> (Int32.toUInt32 8 &&& Int32.toUInt32 31)).toInt32, σ4)))
set_option maxHeartbeats 4000000 in
set_option maxRecDepth 100000 in
theorem c_X0_draw (l : Launch) (D : va_G) (V : zz_V) (ad : Nat → Nat) (cA : Nat → ClassId) (q0 : Nat) (hq0 : XL.2.1 q0 = 0) (σ : zg_S) (r0 : Int32) (σf : zg_S) (hf : f_X0_draw q0 σ = some (r0, σf)) : zM_I l yX0_draw wsX0_draw 0 0 D V XL ad cA [.ref (ad q0)] σ r0 σf := by
  intro sz
  refine Met.ofW (cc := cX0_draw) (maxL := 1) (ret := (some .int)) (by decide) rfl ?_
  intro p e s m args below meth c s₁ B hml hv
  obtain ⟨rfl, hC⟩ := hv
  have hx := B.exec
  have hb := B.bytes
  have hr := B.returns
  have hts := atoms_spec (ws := wsX0_draw) B.pre
  have hown : s.vm.findClass RX0 = some m.cls := findClass_of_methodNamed B.named
  have hlk := B.notSynchronized
  have X : CallFix p m c cX0_draw 1 s _ wsX0_draw RX0 := ⟨hx, hb, hml, hown, hts⟩
  have Z := zz_enter hC
  generalize va_A (zg_W XL ad cA σ) sz = A at Z ⊢
  have hl := lv_entry ([.ref (ad q0)]) (n := 1) (Nat.le_of_ble_eq_true rfl)
  rw [lg_entry_eq]
  generalize (lg_sl ([.ref (ad q0)]) ++ List.replicate (1 - (lg_sl ([.ref (ad q0)])).length) Slot.unset).toArray = ls at hl ⊢
  have hl : lv_has ls 1 [(0, .ref (ad q0))] := hl
  unfold f_X0_draw at hf
  refine lv_aload_n hx hb dX0_draw_0 rfl (lv_at hl 0 rfl) ?_
  refine lv_aload_n hx hb dX0_draw_1 rfl (lv_at hl 0 rfl) ?_
  refine zy_get (v := .int (σ q0 13)) X Z xL_ok hq0 rfl rfl (fun w h => List.mem_cons_of_mem _ (List.mem_append_right _ h)) 13 rfl (zz_m 1 rfl) rfl dX0_draw_2 ?_
  refine lv_ldc (v := 1103515245) hx hb hown (hts _ (zz_m 2 rfl)) dX0_draw_5 ?_
  refine lv_imul hx hb dX0_draw_7 ?_
  refine lv_sipush (v := 12345) hx hb dX0_draw_8 (by decide) ?_
  refine lv_iadd hx hb dX0_draw_11 ?_
  obtain ⟨y1, ey2, hf3⟩ := zLet hf
  clear hf
  refine zz_v (v := y1) ey2.symm ?_
  clear ey2
  obtain ⟨σ4, es5, hf6⟩ := zLet hf3
  clear hf3
  refine zy_put (v := y1) (σ' := σ4) X Z xL_ok hq0 rfl rfl (fun w h => List.mem_cons_of_mem _ (List.mem_append_right _ h)) tyX0 tyX0_ok nmX0 13 rfl (zz_m 1 rfl) rfl rfl rfl (fun _ => rfl) (fun _ => rfl) es5 dX0_draw_12 (fun H7 lo8 Z9 => ?_)
  clear Z es5
  refine lv_aload_n hx hb dX0_draw_15 rfl (lv_at hl 0 rfl) ?_
  refine zy_get (v := .int (σ4 q0 13)) X Z9 xL_ok hq0 rfl rfl (fun w h => List.mem_cons_of_mem _ (List.mem_append_right _ h)) 13 rfl (zz_m 1 rfl) rfl dX0_draw_16 ?_
  refine lv_bipush (v := 8) hx hb dX0_draw_19 (by decide) ?_
  refine lv_iushr (v := (Int32.toUInt32 (σ4 q0 13) >>> (Int32.toUInt32 8 &&& Int32.toUInt32 31)).toInt32) hx hb dX0_draw_21 rfl ?_
  exact zy_iret X hr hlk Z9 (zEnd hf6) dX0_draw_22
def f_X0_lastFirst (q0 : Nat) (σ : zg_S) : Option (Int32 × zg_S) := some (12 - (σ q0 5), σ)
set_option maxHeartbeats 4000000 in
set_option maxRecDepth 100000 in
theorem c_X0_lastFirst (l : Launch) (D : va_G) (V : zz_V) (ad : Nat → Nat) (cA : Nat → ClassId) (q0 : Nat) (hq0 : XL.2.1 q0 = 0) (σ : zg_S) (r0 : Int32) (σf : zg_S) (hf : f_X0_lastFirst q0 σ = some (r0, σf)) : zM_I l yX0_lastFirst wsX0_lastFirst 0 0 D V XL ad cA [.ref (ad q0)] σ r0 σf := by
  intro sz
  refine Met.ofW (cc := cX0_lastFirst) (maxL := 1) (ret := (some .int)) (by decide) rfl ?_
  intro p e s m args below meth c s₁ B hml hv
  obtain ⟨rfl, hC⟩ := hv
  have hx := B.exec
  have hb := B.bytes
  have hr := B.returns
  have hts := atoms_spec (ws := wsX0_lastFirst) B.pre
  have hown : s.vm.findClass RX0 = some m.cls := findClass_of_methodNamed B.named
  have hlk := B.notSynchronized
  have X : CallFix p m c cX0_lastFirst 1 s _ wsX0_lastFirst RX0 := ⟨hx, hb, hml, hown, hts⟩
  have Z := zz_enter hC
  generalize va_A (zg_W XL ad cA σ) sz = A at Z ⊢
  have hl := lv_entry ([.ref (ad q0)]) (n := 1) (Nat.le_of_ble_eq_true rfl)
  rw [lg_entry_eq]
  generalize (lg_sl ([.ref (ad q0)]) ++ List.replicate (1 - (lg_sl ([.ref (ad q0)])).length) Slot.unset).toArray = ls at hl ⊢
  have hl : lv_has ls 1 [(0, .ref (ad q0))] := hl
  unfold f_X0_lastFirst at hf
  refine lv_bipush (v := 12) hx hb dX0_lastFirst_0 (by decide) ?_
  refine lv_aload_n hx hb dX0_lastFirst_2 rfl (lv_at hl 0 rfl) ?_
  refine zy_get (v := .int (σ q0 5)) X Z xL_ok hq0 rfl rfl (fun w h => List.mem_cons_of_mem _ (List.mem_append_right _ h)) 5 rfl (zz_m 1 rfl) rfl dX0_lastFirst_3 ?_
  refine lv_isub hx hb dX0_lastFirst_6 ?_
  exact zy_iret X hr hlk Z (zEnd hf) dX0_lastFirst_7
def f_X6_held (a0 : Int32) (a1 : Int32) (a2 : Int32) (σ : zg_S) : Option (Int32 × zg_S) := zlet (if a1 < (if a2 < a0 then a2 else a0) then if a2 < a0 then a2 else a0 else a1) (fun (y1 : Int32) => some (y1, σ))
set_option maxHeartbeats 4000000 in
set_option maxRecDepth 100000 in
theorem c_X6_held (l : Launch) (D : va_G) (V : zz_V) (ad : Nat → Nat) (cA : Nat → ClassId) (a0 : Int32) (a1 : Int32) (a2 : Int32)  (σ : zg_S) (r0 : Int32) (σf : zg_S) (hf : f_X6_held a0 a1 a2 σ = some (r0, σf)) : zM_I l yX6_held wsX6_held 1 24 D V XL ad cA [.int a0, .int a1, .int a2] σ r0 σf := by
  intro sz
  refine Met.ofW (cc := cX6_held) (maxL := 3) (ret := (some .int)) (by decide) rfl ?_
  intro p e s m args below meth c s₁ B hml hv
  obtain ⟨rfl, hC⟩ := hv
  have hx := B.exec
  have hb := B.bytes
  have hr := B.returns
  have hts := atoms_spec (ws := wsX6_held) B.pre
  have hown : s.vm.findClass RX6 = some m.cls := findClass_of_methodNamed B.named
  have hlk := B.notSynchronized
  have X : CallFix p m c cX6_held 3 s _ wsX6_held RX6 := ⟨hx, hb, hml, hown, hts⟩
  have Z := zz_enter hC
  generalize va_A (zg_W XL ad cA σ) sz = A at Z ⊢
  have hl := lv_entry ([.int a0, .int a1, .int a2]) (n := 3) (Nat.le_of_ble_eq_true rfl)
  rw [lg_entry_eq]
  generalize (lg_sl ([.int a0, .int a1, .int a2]) ++ List.replicate (3 - (lg_sl ([.int a0, .int a1, .int a2])).length) Slot.unset).toArray = ls at hl ⊢
  have hl : lv_has ls 3 [(0, .int a0), (1, .int a1), (2, .int a2)] := hl
  unfold f_X6_held at hf
  refine lv_iload_n hx hb dX6_held_0 rfl (lv_at hl 1 rfl) ?_
  refine lv_iload_n hx hb dX6_held_1 rfl (lv_at hl 0 rfl) ?_
  refine lv_iload_n hx hb dX6_held_2 rfl (lv_at hl 2 rfl) ?_
  refine va_mmin hx hb (by rw [hml]; exact hl.1.symm) hown (hts _ (zz_m 1 rfl)) (hts _ (zz_m 2 rfl)) (hts _ (zz_m 3 rfl)) (hts _ (zz_m 4 rfl)) (Nat.le_of_ble_eq_true rfl) (Nat.le_of_ble_eq_true rfl) (Nat.le_of_ble_eq_true rfl) (Nat.le_of_ble_eq_true rfl) dX6_held_3 ?_
  refine va_mmax hx hb (by rw [hml]; exact hl.1.symm) hown (hts _ (zz_m 5 rfl)) (hts _ (zz_m 6 rfl)) (hts _ (zz_m 3 rfl)) (hts _ (zz_m 7 rfl)) (Nat.le_of_ble_eq_true rfl) (Nat.le_of_ble_eq_true rfl) (Nat.le_of_ble_eq_true rfl) (Nat.le_of_ble_eq_true rfl) dX6_held_6 ?_
  obtain ⟨y1, ey2, hf3⟩ := zLet hf
  clear hf
  refine zz_v (v := y1) ey2.symm ?_
  clear ey2
  exact zy_iret X hr hlk Z (zEnd hf3) dX6_held_9
def f_X0_blow (q0 : Nat) (σ : zg_S) : Option (Int32 × zg_S) := zbd (f_X0_draw q0 σ) (fun (r1 : Int32) (σ2 : zg_S) => (if (r1 - r1 / 100 * 100) < (σ2 q0 8) then zbd (f_X0_draw q0 σ2) (fun (r10 : Int32) (σ11 : zg_S) => zbd (f_X0_lastFirst q0 σ11) (fun (r19 : Int32) (σ20 : zg_S) => zbd (f_X6_held ((σ11 q0 6) + ((r10 - r10 / 3 * 3) - 1)) 0 r19 σ20) (fun (r26 : Int32) (σ27 : zg_S) => zlet (zg_up σ27 q0 6 r26) (fun (σ33 : zg_S) => (if ((r10 - r10 / 3 * 3) - 1) = 0 then some (0, σ33) else zlet (zg_up σ33 q0 12 ((σ33 q0 12) + 1)) (fun (σ42 : zg_S) => some (0, σ42))))))) else some (0, σ2)))
set_option maxHeartbeats 4000000 in
set_option maxRecDepth 100000 in
theorem c_X0_blow (l : Launch) (D : va_G) (V : zz_V) (ad : Nat → Nat) (cA : Nat → ClassId) (q0 : Nat) (hq0 : XL.2.1 q0 = 0) (σ : zg_S) (r0 : Int32) (σf : zg_S) (hf : f_X0_blow q0 σ = some (r0, σf)) : zM_V l yX0_blow wsX0_blow 2 46 D V XL ad cA [.ref (ad q0)] σ r0 σf := by
  intro sz
  refine Met.ofW (cc := cX0_blow) (maxL := 2) (ret := none) (by decide) rfl ?_
  intro p e s m args below meth c s₁ B hml hv
  obtain ⟨rfl, hC⟩ := hv
  have hx := B.exec
  have hb := B.bytes
  have hr := B.returns
  have hts := atoms_spec (ws := wsX0_blow) B.pre
  have hown : s.vm.findClass RX0 = some m.cls := findClass_of_methodNamed B.named
  have hlk := B.notSynchronized
  have X : CallFix p m c cX0_blow 2 s _ wsX0_blow RX0 := ⟨hx, hb, hml, hown, hts⟩
  have Z := zz_enter hC
  generalize va_A (zg_W XL ad cA σ) sz = A at Z ⊢
  have hl := lv_entry ([.ref (ad q0)]) (n := 2) (Nat.le_of_ble_eq_true rfl)
  rw [lg_entry_eq]
  generalize (lg_sl ([.ref (ad q0)]) ++ List.replicate (2 - (lg_sl ([.ref (ad q0)])).length) Slot.unset).toArray = ls at hl ⊢
  have hl : lv_has ls 2 [(0, .ref (ad q0))] := hl
  unfold f_X0_blow at hf
  refine lv_aload_n hx hb dX0_blow_0 rfl (lv_at hl 0 rfl) ?_
  obtain ⟨r1, σ2, hc3, hf4⟩ := zBd hf
  clear hf
  refine zy_ci (r0 := r1) (WS1 := zg_W XL ad cA σ2) (TYS1 := zg_T XL cA) Z (va_runV (As := []) (rest := []) X (c_X0_draw l D V ad cA q0 hq0 σ r1 σ2 hc3 s.heap.size) (cwV 0 hts gX0_blow_X0_draw rfl rfl rfl ⟨rfl, zh_X0_draw⟩ ⟨Nat.le_of_ble_eq_true rfl, Nat.le_of_ble_eq_true rfl⟩) (zy_pV (ci := 0) Z xL_ok hq0 rfl rfl) rfl rfl hl.1 rfl (lv_room (Nat.le_of_ble_eq_true rfl)) dX0_blow_1 ⟨Nat.le_of_ble_eq_true rfl, Nat.le_of_ble_eq_true rfl⟩) (fun H5 lo6 Z7 => ?_)
  clear Z hc3
  refine lv_bipush (v := 100) hx hb dX0_blow_4 (by decide) ?_
  refine lv_irem hx hb dX0_blow_6 (by decide) ?_
  refine lv_aload_n hx hb dX0_blow_7 rfl (lv_at hl 0 rfl) ?_
  refine zy_get (v := .int (σ2 q0 8)) X Z7 xL_ok hq0 rfl rfl (fun w h => List.mem_cons_of_mem _ (List.mem_append_right _ h)) 8 rfl (zz_m 1 rfl) rfl dX0_blow_8 ?_
  refine lv_icmp_lt (tgt := 15) hx hb dX0_blow_11 (by decide) (fun b8 => ?_) (fun b8 => ?_)
  · have hf9 := zYes hf4 b8
    clear hf4
    refine lv_aload_n hx hb dX0_blow_15 rfl (lv_at hl 0 rfl) ?_
    obtain ⟨r10, σ11, hc12, hf13⟩ := zBd hf9
    clear hf9
    refine zy_ci (r0 := r10) (WS1 := zg_W XL ad cA σ11) (TYS1 := zg_T XL cA) Z7 (va_runV (As := []) (rest := []) X (c_X0_draw l D V ad cA q0 hq0 σ2 r10 σ11 hc12 H5.size) (cwV 0 hts gX0_blow_X0_draw rfl rfl rfl ⟨rfl, zh_X0_draw⟩ ⟨Nat.le_of_ble_eq_true rfl, Nat.le_of_ble_eq_true rfl⟩) (zy_pV (ci := 0) Z7 xL_ok hq0 rfl rfl) rfl rfl hl.1 rfl (lv_room (Nat.le_of_ble_eq_true rfl)) dX0_blow_16 ⟨Nat.le_of_ble_eq_true rfl, Nat.le_of_ble_eq_true rfl⟩) (fun H14 lo15 Z16 => ?_)
    clear Z7 hc12
    refine lv_iconst (v := 3) hx hb dX0_blow_19 (by decide) ?_
    refine lv_irem hx hb dX0_blow_20 (by decide) ?_
    refine lv_iconst (v := 1) hx hb dX0_blow_21 (by decide) ?_
    refine lv_isub hx hb dX0_blow_22 ?_
    refine lv_istore_n (lv' := [(1, .int ((r10 - r10 / 3 * 3) - 1)), (0, .ref (ad q0))]) hx hb dX0_blow_23 rfl hl (by decide) rfl (fun ls18 hl17 => ?_)
    clear hl
    refine lv_aload_n hx hb dX0_blow_24 rfl (lv_at hl17 1 rfl) ?_
    refine lv_aload_n hx hb dX0_blow_25 rfl (lv_at hl17 1 rfl) ?_
    refine zy_get (v := .int (σ11 q0 6)) X Z16 xL_ok hq0 rfl rfl (fun w h => List.mem_cons_of_mem _ (List.mem_append_right _ h)) 6 rfl (zz_m 2 rfl) rfl dX0_blow_26 ?_
    refine lv_iload_n hx hb dX0_blow_29 rfl (lv_at hl17 0 rfl) ?_
    refine lv_iadd hx hb dX0_blow_30 ?_
    refine lv_iconst (v := 0) hx hb dX0_blow_31 (by decide) ?_
    refine lv_aload_n hx hb dX0_blow_32 rfl (lv_at hl17 1 rfl) ?_
    obtain ⟨r19, σ20, hc21, hf22⟩ := zBd hf13
    clear hf13
    refine zy_ci (r0 := r19) (WS1 := zg_W XL ad cA σ20) (TYS1 := zg_T XL cA) Z16 (va_runV (As := []) (rest := [.int 0, .int ((σ11 q0 6) + ((r10 - r10 / 3 * 3) - 1)), .ref (ad q0)]) X (c_X0_lastFirst l D V ad cA q0 hq0 σ11 r19 σ20 hc21 H14.size) (cwV 0 hts gX0_blow_X0_lastFirst rfl rfl rfl ⟨rfl, zh_X0_lastFirst⟩ ⟨Nat.le_of_ble_eq_true rfl, Nat.le_of_ble_eq_true rfl⟩) (zy_pV (ci := 0) Z16 xL_ok hq0 rfl rfl) rfl rfl hl17.1 rfl (lv_room (Nat.le_of_ble_eq_true rfl)) dX0_blow_33 ⟨Nat.le_of_ble_eq_true rfl, Nat.le_of_ble_eq_true rfl⟩) (fun H23 lo24 Z25 => ?_)
    clear Z16 hc21
    obtain ⟨r26, σ27, hc28, hf29⟩ := zBd hf22
    clear hf22
    refine zy_ci (r0 := r26) (WS1 := zg_W XL ad cA σ27) (TYS1 := zg_T XL cA) Z25 (va_runSN (As := [.int ((σ11 q0 6) + ((r10 - r10 / 3 * 3) - 1)), .int 0, .int r19]) (rest := [.ref (ad q0)]) X (c_X6_held l D V ad cA ((σ11 q0 6) + ((r10 - r10 / 3 * 3) - 1)) 0 r19 σ20 r26 σ27 hc28 H23.size) ⟨va_cnB 3 hts gX0_blow_X6_held_n120 rfl rfl rfl (zz_nw (q := (RX0, 120, yX6_held, RX6)) Z25.2.2.2.2.2 3 rfl) (hts _ (zz_m 17 rfl)) zh_X6_held ⟨Nat.le_of_ble_eq_true rfl, Nat.le_of_ble_eq_true rfl⟩, hts _ (zz_m 16 rfl), trivial⟩ (zz_pS Z25) rfl rfl hl17.1 rfl (lv_room (Nat.le_of_ble_eq_true rfl)) dX0_blow_36 ⟨Nat.le_of_ble_eq_true rfl, Nat.le_of_ble_eq_true rfl⟩) (fun H30 lo31 Z32 => ?_)
    clear Z25 hc28
    obtain ⟨σ33, es34, hf35⟩ := zLet hf29
    clear hf29
    refine zy_put (v := r26) (σ' := σ33) X Z32 xL_ok hq0 rfl rfl (fun w h => List.mem_cons_of_mem _ (List.mem_append_right _ h)) tyX0 tyX0_ok nmX0 6 rfl (zz_m 2 rfl) rfl rfl rfl (fun _ => rfl) (fun _ => rfl) es34 dX0_blow_39 (fun H36 lo37 Z38 => ?_)
    clear Z32 es34
    refine lv_iload_n hx hb dX0_blow_42 rfl (lv_at hl17 0 rfl) ?_
    refine lv_if_eq (tgt := 56) hx hb dX0_blow_43 (by decide) (fun b39 => ?_) (fun b39 => ?_)
    · have hf40 := zYes hf35 b39
      clear hf35
      exact zy_vret X hr hlk Z38 (zEnd hf40) dX0_blow_56
    · have hf41 := zNot hf35 b39
      clear hf35
      refine lv_aload_n hx hb dX0_blow_46 rfl (lv_at hl17 1 rfl) ?_
      refine lv_dup hx hb dX0_blow_47 rfl ?_
      refine zy_get (v := .int (σ33 q0 12)) X Z38 xL_ok hq0 rfl rfl (fun w h => List.mem_cons_of_mem _ (List.mem_append_right _ h)) 12 rfl (zz_m 3 rfl) rfl dX0_blow_48 ?_
      refine lv_iconst (v := 1) hx hb dX0_blow_51 (by decide) ?_
      refine lv_iadd hx hb dX0_blow_52 ?_
      obtain ⟨σ42, es43, hf44⟩ := zLet hf41
      clear hf41
      refine zy_put (v := (σ33 q0 12) + 1) (σ' := σ42) X Z38 xL_ok hq0 rfl rfl (fun w h => List.mem_cons_of_mem _ (List.mem_append_right _ h)) tyX0 tyX0_ok nmX0 12 rfl (zz_m 3 rfl) rfl rfl rfl (fun _ => rfl) (fun _ => rfl) es43 dX0_blow_53 (fun H45 lo46 Z47 => ?_)
      clear Z38 es43
      exact zy_vret X hr hlk Z47 (zEnd hf44) dX0_blow_56
  · have hf48 := zNot hf4 b8
    clear hf4
    exact zy_vret X hr hlk Z7 (zEnd hf48) dX0_blow_14
def f_X6_within (a0 : Int32) (a1 : Int32) (a2 : Int32) (σ : zg_S) : Option (Int32 × zg_S) := (if a0 < a1 then some (0, σ) else (if a2 < a0 then some (0, σ) else some (1, σ)))
set_option maxHeartbeats 4000000 in
set_option maxRecDepth 100000 in
theorem c_X6_within (l : Launch) (D : va_G) (V : zz_V) (ad : Nat → Nat) (cA : Nat → ClassId) (a0 : Int32) (a1 : Int32) (a2 : Int32)  (σ : zg_S) (r0 : Int32) (σf : zg_S) (hf : f_X6_within a0 a1 a2 σ = some (r0, σf)) : zM_I l yX6_within wsX6_within 0 0 D V XL ad cA [.int a0, .int a1, .int a2] σ r0 σf := by
  intro sz
  refine Met.ofW (cc := cX6_within) (maxL := 3) (ret := (some .boolean)) (by decide) rfl ?_
  intro p e s m args below meth c s₁ B hml hv
  obtain ⟨rfl, hC⟩ := hv
  have hx := B.exec
  have hb := B.bytes
  have hr := B.returns
  have hts := atoms_spec (ws := wsX6_within) B.pre
  have hown : s.vm.findClass RX6 = some m.cls := findClass_of_methodNamed B.named
  have hlk := B.notSynchronized
  have X : CallFix p m c cX6_within 3 s _ wsX6_within RX6 := ⟨hx, hb, hml, hown, hts⟩
  have Z := zz_enter hC
  generalize va_A (zg_W XL ad cA σ) sz = A at Z ⊢
  have hl := lv_entry ([.int a0, .int a1, .int a2]) (n := 3) (Nat.le_of_ble_eq_true rfl)
  rw [lg_entry_eq]
  generalize (lg_sl ([.int a0, .int a1, .int a2]) ++ List.replicate (3 - (lg_sl ([.int a0, .int a1, .int a2])).length) Slot.unset).toArray = ls at hl ⊢
  have hl : lv_has ls 3 [(0, .int a0), (1, .int a1), (2, .int a2)] := hl
  unfold f_X6_within at hf
  refine lv_iload_n hx hb dX6_within_0 rfl (lv_at hl 0 rfl) ?_
  refine lv_iload_n hx hb dX6_within_1 rfl (lv_at hl 1 rfl) ?_
  refine lv_icmp_lt (tgt := 14) hx hb dX6_within_2 (by decide) (fun b1 => ?_) (fun b1 => ?_)
  · have hf2 := zYes hf b1
    clear hf
    refine lv_iconst (v := 0) hx hb dX6_within_14 (by decide) ?_
    exact zy_zret X hr hlk Z (by decide) (zEnd hf2) dX6_within_15
  · have hf3 := zNot hf b1
    clear hf
    refine lv_iload_n hx hb dX6_within_5 rfl (lv_at hl 0 rfl) ?_
    refine lv_iload_n hx hb dX6_within_6 rfl (lv_at hl 2 rfl) ?_
    refine lv_icmp_gt (tgt := 14) hx hb dX6_within_7 (by decide) (fun b4 => ?_) (fun b4 => ?_)
    · have hf5 := zYes hf3 b4
      clear hf3
      refine lv_iconst (v := 0) hx hb dX6_within_14 (by decide) ?_
      exact zy_zret X hr hlk Z (by decide) (zEnd hf5) dX6_within_15
    · have hf6 := zNot hf3 b4
      clear hf3
      refine lv_iconst (v := 1) hx hb dX6_within_10 (by decide) ?_
      refine lv_goto (tgt := 15) hx hb dX6_within_11 (by decide) ?_
      exact zy_zret X hr hlk Z (by decide) (zEnd hf6) dX6_within_15
def f_X2_hasPlace (q0 : Nat) (a1 : Int32) (σ : zg_S) : Option (Int32 × zg_S) := zbd (f_X6_within a1 0 ((σ q0 1) - 1) σ) (fun (r1 : Int32) (σ2 : zg_S) => (if r1 = 0 ∨ r1 = 1 then some (r1, σ2) else none))
set_option maxHeartbeats 4000000 in
set_option maxRecDepth 100000 in
theorem c_X2_hasPlace (l : Launch) (D : va_G) (V : zz_V) (ad : Nat → Nat) (cA : Nat → ClassId) (q0 : Nat) (a1 : Int32) (hq0 : XL.2.1 q0 = 2) (σ : zg_S) (r0 : Int32) (σf : zg_S) (hf : f_X2_hasPlace q0 a1 σ = some (r0, σf)) : zM_I l yX2_hasPlace wsX2_hasPlace 1 22 D V XL ad cA [.ref (ad q0), .int a1] σ r0 σf := by
  intro sz
  refine Met.ofW (cc := cX2_hasPlace) (maxL := 2) (ret := (some .boolean)) (by decide) rfl ?_
  intro p e s m args below meth c s₁ B hml hv
  obtain ⟨rfl, hC⟩ := hv
  have hx := B.exec
  have hb := B.bytes
  have hr := B.returns
  have hts := atoms_spec (ws := wsX2_hasPlace) B.pre
  have hown : s.vm.findClass RX2 = some m.cls := findClass_of_methodNamed B.named
  have hlk := B.notSynchronized
  have X : CallFix p m c cX2_hasPlace 2 s _ wsX2_hasPlace RX2 := ⟨hx, hb, hml, hown, hts⟩
  have Z := zz_enter hC
  generalize va_A (zg_W XL ad cA σ) sz = A at Z ⊢
  have hl := lv_entry ([.ref (ad q0), .int a1]) (n := 2) (Nat.le_of_ble_eq_true rfl)
  rw [lg_entry_eq]
  generalize (lg_sl ([.ref (ad q0), .int a1]) ++ List.replicate (2 - (lg_sl ([.ref (ad q0), .int a1])).length) Slot.unset).toArray = ls at hl ⊢
  have hl : lv_has ls 2 [(0, .ref (ad q0)), (1, .int a1)] := hl
  unfold f_X2_hasPlace at hf
  refine lv_iload_n hx hb dX2_hasPlace_0 rfl (lv_at hl 1 rfl) ?_
  refine lv_iconst (v := 0) hx hb dX2_hasPlace_1 (by decide) ?_
  refine lv_aload_n hx hb dX2_hasPlace_2 rfl (lv_at hl 0 rfl) ?_
  refine zy_get (v := .int (σ q0 1)) X Z xL_ok hq0 rfl rfl (fun w h => List.mem_cons_of_mem _ (List.mem_append_right _ h)) 1 rfl (zz_m 1 rfl) rfl dX2_hasPlace_3 ?_
  refine lv_iconst (v := 1) hx hb dX2_hasPlace_6 (by decide) ?_
  refine lv_isub hx hb dX2_hasPlace_7 ?_
  obtain ⟨r1, σ2, hc3, hf4⟩ := zBd hf
  clear hf
  refine zy_ci (r0 := r1) (WS1 := zg_W XL ad cA σ2) (TYS1 := zg_T XL cA) Z (va_runSN (As := [.int a1, .int 0, .int ((σ q0 1) - 1)]) (rest := []) X (c_X6_within l D V ad cA a1 0 ((σ q0 1) - 1) σ r1 σ2 hc3 s.heap.size) ⟨va_cnB 3 hts gX2_hasPlace_X6_within_n32 rfl rfl rfl (zz_nw (q := (RX2, 32, yX6_within, RX6)) Z.2.2.2.2.2 10 rfl) (hts _ (zz_m 3 rfl)) zh_X6_within ⟨Nat.le_of_ble_eq_true rfl, Nat.le_of_ble_eq_true rfl⟩, hts _ (zz_m 2 rfl), trivial⟩ (zz_pS Z) rfl rfl hl.1 rfl (lv_room (Nat.le_of_ble_eq_true rfl)) dX2_hasPlace_8 ⟨Nat.le_of_ble_eq_true rfl, Nat.le_of_ble_eq_true rfl⟩) (fun H5 lo6 Z7 => ?_)
  clear Z hc3
  obtain ⟨z9, hf8⟩ := zC hf4
  exact zy_zret X hr hlk Z7 z9 (zEnd hf8) dX2_hasPlace_11
def f_X2_hasNumber (q0 : Nat) (a1 : Int32) (σ : zg_S) : Option (Int32 × zg_S) := zbd (f_X2_hasPlace q0 a1 σ) (fun (r1 : Int32) (σ2 : zg_S) => (if r1 = 0 then some (0, σ2) else (if zin a1 24 = true then (if (σ2 (q0 + 1) (Int32.toNatClampNeg a1)) = (-1000000005) then some (0, σ2) else some (1, σ2)) else none)))
set_option maxHeartbeats 4000000 in
set_option maxRecDepth 100000 in
theorem c_X2_hasNumber (l : Launch) (D : va_G) (V : zz_V) (ad : Nat → Nat) (cA : Nat → ClassId) (q0 : Nat) (a1 : Int32) (hq0 : XL.2.1 q0 = 2) (σ : zg_S) (r0 : Int32) (σf : zg_S) (hf : f_X2_hasNumber q0 a1 σ = some (r0, σf)) : zM_I l yX2_hasNumber wsX2_hasNumber 2 43 D V XL ad cA [.ref (ad q0), .int a1] σ r0 σf := by
  intro sz
  refine Met.ofW (cc := cX2_hasNumber) (maxL := 2) (ret := (some .boolean)) (by decide) rfl ?_
  intro p e s m args below meth c s₁ B hml hv
  obtain ⟨rfl, hC⟩ := hv
  have hx := B.exec
  have hb := B.bytes
  have hr := B.returns
  have hts := atoms_spec (ws := wsX2_hasNumber) B.pre
  have hown : s.vm.findClass RX2 = some m.cls := findClass_of_methodNamed B.named
  have hlk := B.notSynchronized
  have X : CallFix p m c cX2_hasNumber 2 s _ wsX2_hasNumber RX2 := ⟨hx, hb, hml, hown, hts⟩
  have Z := zz_enter hC
  generalize va_A (zg_W XL ad cA σ) sz = A at Z ⊢
  have hl := lv_entry ([.ref (ad q0), .int a1]) (n := 2) (Nat.le_of_ble_eq_true rfl)
  rw [lg_entry_eq]
  generalize (lg_sl ([.ref (ad q0), .int a1]) ++ List.replicate (2 - (lg_sl ([.ref (ad q0), .int a1])).length) Slot.unset).toArray = ls at hl ⊢
  have hl : lv_has ls 2 [(0, .ref (ad q0)), (1, .int a1)] := hl
  unfold f_X2_hasNumber at hf
  refine lv_aload_n hx hb dX2_hasNumber_0 rfl (lv_at hl 0 rfl) ?_
  refine lv_iload_n hx hb dX2_hasNumber_1 rfl (lv_at hl 1 rfl) ?_
  obtain ⟨r1, σ2, hc3, hf4⟩ := zBd hf
  clear hf
  refine zy_ci (r0 := r1) (WS1 := zg_W XL ad cA σ2) (TYS1 := zg_T XL cA) Z (va_runV (As := [.int a1]) (rest := []) X (c_X2_hasPlace l D V ad cA q0 a1 hq0 σ r1 σ2 hc3 s.heap.size) (cwV 1 hts gX2_hasNumber_X2_hasPlace rfl rfl rfl ⟨rfl, zh_X2_hasPlace⟩ ⟨Nat.le_of_ble_eq_true rfl, Nat.le_of_ble_eq_true rfl⟩) (zy_pV (ci := 2) Z xL_ok hq0 rfl rfl) rfl rfl hl.1 rfl (lv_room (Nat.le_of_ble_eq_true rfl)) dX2_hasNumber_2 ⟨Nat.le_of_ble_eq_true rfl, Nat.le_of_ble_eq_true rfl⟩) (fun H5 lo6 Z7 => ?_)
  clear Z hc3
  refine lv_if_eq (tgt := 23) hx hb dX2_hasNumber_5 (by decide) (fun b8 => ?_) (fun b8 => ?_)
  · have hf9 := zYes hf4 b8
    clear hf4
    refine lv_iconst (v := 0) hx hb dX2_hasNumber_23 (by decide) ?_
    exact zy_zret X hr hlk Z7 (by decide) (zEnd hf9) dX2_hasNumber_24
  · have hf10 := zNot hf4 b8
    clear hf4
    refine lv_aload_n hx hb dX2_hasNumber_8 rfl (lv_at hl 0 rfl) ?_
    refine zy_get (v := .ref (ad (q0 + 1))) X Z7 xL_ok hq0 rfl rfl (fun w h => List.mem_cons_of_mem _ (List.mem_append_right _ h)) 2 rfl (zz_m 1 rfl) rfl dX2_hasNumber_9 ?_
    refine lv_iload_n hx hb dX2_hasNumber_12 rfl (lv_at hl 1 rfl) ?_
    obtain ⟨⟨i11, j12⟩, hf13⟩ := zG hf10
    clear hf10
    refine zy_ild X Z7 xL_ok (xH1 hq0) (xH1l hq0) i11 dX2_hasNumber_13 ?_
    refine lv_ldc (v := (-1000000005)) hx hb hown (hts _ (zz_m 2 rfl)) dX2_hasNumber_14 ?_
    refine lv_icmp_eq (tgt := 23) hx hb dX2_hasNumber_16 (by decide) (fun b14 => ?_) (fun b14 => ?_)
    · have hf15 := zYes hf13 b14
      clear hf13
      refine lv_iconst (v := 0) hx hb dX2_hasNumber_23 (by decide) ?_
      exact zy_zret X hr hlk Z7 (by decide) (zEnd hf15) dX2_hasNumber_24
    · have hf16 := zNot hf13 b14
      clear hf13
      refine lv_iconst (v := 1) hx hb dX2_hasNumber_19 (by decide) ?_
      refine lv_goto (tgt := 24) hx hb dX2_hasNumber_20 (by decide) ?_
      exact zy_zret X hr hlk Z7 (by decide) (zEnd hf16) dX2_hasNumber_24
def B_X0_differencesFrom_42 (q0 : Nat) (q1 : Nat) (rec4_ : Int32 → Int32 → zg_S → Option (Int32 × zg_S)) (x2 : Int32) (x3 : Int32) (σ : zg_S) : Option (Int32 × zg_S) := rec4_ x2 (x3 + 1) σ
def B_X0_differencesFrom_4 (q0 : Nat) (q1 : Nat) (rec4_ : Int32 → Int32 → zg_S → Option (Int32 × zg_S)) (x2 : Int32) (x3 : Int32) (σ : zg_S) : Option (Int32 × zg_S) := (if (σ q0 3) ≤ x3 then some (x2, σ) else zbd (f_X2_hasNumber q1 x3 σ) (fun (r6 : Int32) (σ7 : zg_S) => (if r6 = 0 then B_X0_differencesFrom_42 q0 q1 rec4_ x2 x3 σ7 else (if zin x3 9 = true then (if zin x3 24 = true then zlet (if 0 ≤ ((σ7 ((q0 + 1) + 2 + (Int32.toNatClampNeg x3)) 2) - (σ7 (q1 + 1) (Int32.toNatClampNeg x3))) then (σ7 ((q0 + 1) + 2 + (Int32.toNatClampNeg x3)) 2) - (σ7 (q1 + 1) (Int32.toNatClampNeg x3)) else 0 - ((σ7 ((q0 + 1) + 2 + (Int32.toNatClampNeg x3)) 2) - (σ7 (q1 + 1) (Int32.toNatClampNeg x3)))) (fun (y22 : Int32) => B_X0_differencesFrom_42 q0 q1 rec4_ (x2 + y22) x3 σ7) else none) else none))))
def L_X0_differencesFrom_4 (q0 : Nat) (q1 : Nat) : Nat → Int32 → Int32 → zg_S → Option (Int32 × zg_S) := zfix (fun _ _ _ => none) (B_X0_differencesFrom_4 q0 q1)
def f_X0_differencesFrom (q0 : Nat) (q1 : Nat) (σ : zg_S) : Option (Int32 × zg_S) := L_X0_differencesFrom_4 q0 q1 zfu 0 0 σ
set_option maxHeartbeats 4000000 in
set_option maxRecDepth 100000 in
theorem c_X0_differencesFrom (l : Launch) (D : va_G) (V : zz_V) (ad : Nat → Nat) (cA : Nat → ClassId) (q0 : Nat) (q1 : Nat) (hq0 : XL.2.1 q0 = 0) (hq1 : XL.2.1 q1 = 2) (σ : zg_S) (r0 : Int32) (σf : zg_S) (hf : f_X0_differencesFrom q0 q1 σ = some (r0, σf)) : zM_I l yX0_differencesFrom wsX0_differencesFrom 3 64 D V XL ad cA [.ref (ad q0), .ref (ad q1)] σ r0 σf := by
  intro sz
  refine Met.ofW (cc := cX0_differencesFrom) (maxL := 4) (ret := (some .int)) (by decide) rfl ?_
  intro p e s m args below meth c s₁ B hml hv
  obtain ⟨rfl, hC⟩ := hv
  have hx := B.exec
  have hb := B.bytes
  have hr := B.returns
  have hts := atoms_spec (ws := wsX0_differencesFrom) B.pre
  have hown : s.vm.findClass RX0 = some m.cls := findClass_of_methodNamed B.named
  have hlk := B.notSynchronized
  have X : CallFix p m c cX0_differencesFrom 4 s _ wsX0_differencesFrom RX0 := ⟨hx, hb, hml, hown, hts⟩
  have Z := zz_enter hC
  generalize va_A (zg_W XL ad cA σ) sz = A at Z ⊢
  have hl := lv_entry ([.ref (ad q0), .ref (ad q1)]) (n := 4) (Nat.le_of_ble_eq_true rfl)
  rw [lg_entry_eq]
  generalize (lg_sl ([.ref (ad q0), .ref (ad q1)]) ++ List.replicate (4 - (lg_sl ([.ref (ad q0), .ref (ad q1)])).length) Slot.unset).toArray = ls at hl ⊢
  have hl : lv_has ls 4 [(0, .ref (ad q0)), (1, .ref (ad q1))] := hl
  unfold f_X0_differencesFrom at hf
  have b4_ : ∀ (k4_ : Nat) (x2 : Int32) (x3 : Int32) (σ : zg_S), L_X0_differencesFrom_4 q0 q1 k4_ x2 x3 σ = some (r0, σf) → ∀ (H : Heap) (locs : List Loc) (ls : Array Slot), zz_S D V A s (zg_W XL ad cA σ) (zg_T XL cA) H locs → lv_has ls 4 [(0, .ref (ad q0)), (1, .ref (ad q1)), (2, .int x2), (3, .int x3)] → W p l e (headSpec wsX0_differencesFrom { frames := 3, cells := 0, slots := 0, locals := 64 }).room s m (List.toArray [.ref (ad q0), .ref (ad q1)]) below meth c H locs 0 0 (MQ below (va_Qi (fun r (_ : Unit) => r = r0) (fun _ t => zz_B D A (zg_W XL ad cA σf) (zg_T XL cA) t) A) (List.toArray [.ref (ad q0), .ref (ad q1)]) s 0 0 A) (F0 m 4 ls []) := by
    intro k4_
    induction k4_ with
    | zero =>
        intro x2 x3 σ hf4_ H4_ locs4_ ls4_ Z4_ hl4_
        exact zNone hf4_
    | succ k4_ ih4_ =>
        intro x2 x3 σ hf4_ H4_ locs4_ ls4_ Z4_ hl4_
        replace hf4_ : B_X0_differencesFrom_4 q0 q1 (L_X0_differencesFrom_4 q0 q1 k4_) x2 x3 σ = some (r0, σf) := hf4_
        unfold B_X0_differencesFrom_4 at hf4_
        have b42_ : ∀ (x2 : Int32) (x3 : Int32) (σ : zg_S), B_X0_differencesFrom_42 q0 q1 (L_X0_differencesFrom_4 q0 q1 k4_) x2 x3 σ = some (r0, σf) → ∀ (H : Heap) (locs : List Loc) (ls : Array Slot), zz_S D V A s (zg_W XL ad cA σ) (zg_T XL cA) H locs → lv_has ls 4 [(0, .ref (ad q0)), (1, .ref (ad q1)), (2, .int x2), (3, .int x3)] → W p l e (headSpec wsX0_differencesFrom { frames := 3, cells := 0, slots := 0, locals := 64 }).room s m (List.toArray [.ref (ad q0), .ref (ad q1)]) below meth c H locs 0 0 (MQ below (va_Qi (fun r (_ : Unit) => r = r0) (fun _ t => zz_B D A (zg_W XL ad cA σf) (zg_T XL cA) t) A) (List.toArray [.ref (ad q0), .ref (ad q1)]) s 0 0 A) (F0 m 42 ls []) := by
          intro x2 x3 σ hf42_ H42_ locs42_ ls42_ Z42_ hl42_
          unfold B_X0_differencesFrom_42 at hf42_
          refine lv_iinc (v := (x3 + 1)) (lv' := [(3, .int (x3 + 1)), (0, .ref (ad q0)), (1, .ref (ad q1)), (2, .int x2)]) hx hb dX0_differencesFrom_42 hl42_ (k := 3) rfl rfl (by decide) rfl (fun ls2 hl1 => ?_)
          clear hl42_
          refine lv_goto (tgt := 4) hx hb dX0_differencesFrom_45 (by decide) ?_
          exact ih4_ x2 (x3 + 1) σ hf42_ _ _ _ Z42_ (lv_sub hl1 [1, 2, 3, 0] rfl)
        refine lv_iload_n hx hb dX0_differencesFrom_4 rfl (lv_at hl4_ 3 rfl) ?_
        refine lv_aload_n hx hb dX0_differencesFrom_5 rfl (lv_at hl4_ 0 rfl) ?_
        refine zy_get (v := .int (σ q0 3)) X Z4_ xL_ok hq0 rfl rfl (fun w h => List.mem_cons_of_mem _ (List.mem_append_left _ (List.mem_append_left _ (List.mem_append_right _ h)))) 3 rfl (zz_m 1 rfl) rfl dX0_differencesFrom_6 ?_
        refine lv_icmp_ge (tgt := 48) hx hb dX0_differencesFrom_9 (by decide) (fun b3 => ?_) (fun b3 => ?_)
        · have hf4 := zYes hf4_ b3
          clear hf4_
          refine lv_iload_n hx hb dX0_differencesFrom_48 rfl (lv_at hl4_ 2 rfl) ?_
          exact zy_iret X hr hlk Z4_ (zEnd hf4) dX0_differencesFrom_49
        · have hf5 := zNot hf4_ b3
          clear hf4_
          refine lv_aload_n hx hb dX0_differencesFrom_12 rfl (lv_at hl4_ 1 rfl) ?_
          refine lv_iload_n hx hb dX0_differencesFrom_13 rfl (lv_at hl4_ 3 rfl) ?_
          obtain ⟨r6, σ7, hc8, hf9⟩ := zBd hf5
          clear hf5
          refine zy_ci (r0 := r6) (WS1 := zg_W XL ad cA σ7) (TYS1 := zg_T XL cA) Z4_ (va_runV (As := [.int x3]) (rest := []) X (c_X2_hasNumber l D V ad cA q1 x3 hq1 σ r6 σ7 hc8 H4_.size) (cwV 1 hts gX0_differencesFrom_X2_hasNumber rfl rfl rfl ⟨rfl, zh_X2_hasNumber⟩ ⟨Nat.le_of_ble_eq_true rfl, Nat.le_of_ble_eq_true rfl⟩) (zy_pV (ci := 2) Z4_ xL_ok hq1 rfl rfl) rfl rfl hl4_.1 rfl (lv_room (Nat.le_of_ble_eq_true rfl)) dX0_differencesFrom_14 ⟨Nat.le_of_ble_eq_true rfl, Nat.le_of_ble_eq_true rfl⟩) (fun H10 lo11 Z12 => ?_)
          clear Z4_ hc8
          refine lv_if_eq (tgt := 42) hx hb dX0_differencesFrom_17 (by decide) (fun b13 => ?_) (fun b13 => ?_)
          · have hf14 := zYes hf9 b13
            clear hf9
            exact b42_ x2 x3 σ7 hf14 _ _ _ Z12 (lv_sub hl4_ [0, 1, 2, 3] rfl)
          · have hf15 := zNot hf9 b13
            clear hf9
            refine lv_iload_n hx hb dX0_differencesFrom_20 rfl (lv_at hl4_ 2 rfl) ?_
            refine lv_aload_n hx hb dX0_differencesFrom_21 rfl (lv_at hl4_ 0 rfl) ?_
            refine zy_get (v := .ref (ad (q0 + 1))) X Z12 xL_ok hq0 rfl rfl (fun w h => List.mem_cons_of_mem _ (List.mem_append_left _ (List.mem_append_left _ (List.mem_append_right _ h)))) 1 rfl (zz_m 2 rfl) rfl dX0_differencesFrom_22 ?_
            refine lv_iload_n hx hb dX0_differencesFrom_25 rfl (lv_at hl4_ 3 rfl) ?_
            obtain ⟨⟨i16, j17⟩, hf18⟩ := zG hf15
            clear hf15
            refine zy_ald (v := ((q0 + 1) + 2 + (Int32.toNatClampNeg x3))) (C := RX4) X Z12 xL_ok (xB1 hq0) rfl rfl (xB1l hq0) rfl i16 rfl dX0_differencesFrom_26 ?_
            refine zy_get (v := .int (σ7 ((q0 + 1) + 2 + (Int32.toNatClampNeg x3)) 2)) X Z12 xL_ok (xS (xB1 hq0) j17) rfl rfl (fun w h => List.mem_cons_of_mem _ (List.mem_append_left _ (List.mem_append_right _ h))) 2 rfl (zz_m 3 rfl) rfl dX0_differencesFrom_27 ?_
            refine lv_aload_n hx hb dX0_differencesFrom_30 rfl (lv_at hl4_ 1 rfl) ?_
            refine zy_get (v := .ref (ad (q1 + 1))) X Z12 xL_ok hq1 rfl rfl (fun w h => List.mem_cons_of_mem _ (List.mem_append_right _ h)) 2 rfl (zz_m 4 rfl) rfl dX0_differencesFrom_31 ?_
            refine lv_iload_n hx hb dX0_differencesFrom_34 rfl (lv_at hl4_ 3 rfl) ?_
            obtain ⟨⟨i19, j20⟩, hf21⟩ := zG hf18
            clear hf18
            refine zy_ild X Z12 xL_ok (xH1 hq1) (xH1l hq1) i19 dX0_differencesFrom_35 ?_
            refine lv_isub hx hb dX0_differencesFrom_36 ?_
            refine va_mabs hx hb (by rw [hml]; exact hl4_.1.symm) hown (hts _ (zz_m 5 rfl)) (hts _ (zz_m 6 rfl)) (hts _ (zz_m 7 rfl)) (hts _ (zz_m 8 rfl)) (Nat.le_of_ble_eq_true rfl) (Nat.le_of_ble_eq_true rfl) (Nat.le_of_ble_eq_true rfl) (Nat.le_of_ble_eq_true rfl) dX0_differencesFrom_37 ?_
            obtain ⟨y22, ey23, hf24⟩ := zLet hf21
            clear hf21
            refine zz_v (v := y22) ey23.symm ?_
            clear ey23
            refine lv_iadd hx hb dX0_differencesFrom_40 ?_
            refine lv_istore_n (lv' := [(2, .int (x2 + y22)), (0, .ref (ad q0)), (1, .ref (ad q1)), (3, .int x3)]) hx hb dX0_differencesFrom_41 rfl hl4_ (by decide) rfl (fun ls26 hl25 => ?_)
            clear hl4_
            exact b42_ (x2 + y22) x3 σ7 hf24 _ _ _ Z12 (lv_sub hl25 [1, 2, 0, 3] rfl)
  refine lv_iconst (v := 0) hx hb dX0_differencesFrom_0 (by decide) ?_
  refine lv_istore_n (lv' := [(2, .int 0), (0, .ref (ad q0)), (1, .ref (ad q1))]) hx hb dX0_differencesFrom_1 rfl hl (by decide) rfl (fun ls28 hl27 => ?_)
  clear hl
  refine lv_iconst (v := 0) hx hb dX0_differencesFrom_2 (by decide) ?_
  refine lv_istore_n (lv' := [(3, .int 0), (2, .int 0), (0, .ref (ad q0)), (1, .ref (ad q1))]) hx hb dX0_differencesFrom_3 rfl hl27 (by decide) rfl (fun ls30 hl29 => ?_)
  clear hl27
  exact b4_ zfu 0 0 σ hf _ _ _ Z (lv_sub hl29 [2, 3, 1, 0] rfl)
def f_X5_takeOver (q0 : Nat) (q1 : Nat) (σ : zg_S) : Option (Int32 × zg_S) := zlet (zg_up σ q0 0 (σ q1 0)) (fun (σ1 : zg_S) => zlet (zg_up σ1 q0 1 (σ1 q1 1)) (fun (σ7 : zg_S) => zlet (zg_up σ7 q0 2 (σ7 q1 2)) (fun (σ13 : zg_S) => (if (¬ (0 : Int32) < 0 ∧ ¬ (0 : Int32) < 0 ∧ ¬ (96 : Int32) < 0 ∧ Int32.toNatClampNeg 0 + Int32.toNatClampNeg 96 ≤ 96 ∧ Int32.toNatClampNeg 0 + Int32.toNatClampNeg 96 ≤ 96) then zlet (zg_row σ13 (q0 + 1) (va_cpy (σ13 (q1 + 1)) (σ13 (q0 + 1)) (Int32.toNatClampNeg 0) (Int32.toNatClampNeg 0) (Int32.toNatClampNeg 96))) (fun (σ25 : zg_S) => some (0, σ25)) else none))))
set_option maxHeartbeats 4000000 in
set_option maxRecDepth 100000 in
theorem c_X5_takeOver (l : Launch) (D : va_G) (V : zz_V) (ad : Nat → Nat) (cA : Nat → ClassId) (q0 : Nat) (q1 : Nat) (hq0 : XL.2.1 q0 = 5) (hq1 : XL.2.1 q1 = 5) (σ : zg_S) (r0 : Int32) (σf : zg_S) (hf : f_X5_takeOver q0 q1 σ = some (r0, σf)) : zM_V l yX5_takeOver wsX5_takeOver 1 60 D V XL ad cA [.ref (ad q0), .ref (ad q1)] σ r0 σf := by
  intro sz
  refine Met.ofW (cc := cX5_takeOver) (maxL := 2) (ret := none) (by decide) rfl ?_
  intro p e s m args below meth c s₁ B hml hv
  obtain ⟨rfl, hC⟩ := hv
  have hx := B.exec
  have hb := B.bytes
  have hr := B.returns
  have hts := atoms_spec (ws := wsX5_takeOver) B.pre
  have hown : s.vm.findClass RX5 = some m.cls := findClass_of_methodNamed B.named
  have hlk := B.notSynchronized
  have X : CallFix p m c cX5_takeOver 2 s _ wsX5_takeOver RX5 := ⟨hx, hb, hml, hown, hts⟩
  have Z := zz_enter hC
  generalize va_A (zg_W XL ad cA σ) sz = A at Z ⊢
  have hl := lv_entry ([.ref (ad q0), .ref (ad q1)]) (n := 2) (Nat.le_of_ble_eq_true rfl)
  rw [lg_entry_eq]
  generalize (lg_sl ([.ref (ad q0), .ref (ad q1)]) ++ List.replicate (2 - (lg_sl ([.ref (ad q0), .ref (ad q1)])).length) Slot.unset).toArray = ls at hl ⊢
  have hl : lv_has ls 2 [(0, .ref (ad q0)), (1, .ref (ad q1))] := hl
  unfold f_X5_takeOver at hf
  refine lv_aload_n hx hb dX5_takeOver_0 rfl (lv_at hl 0 rfl) ?_
  refine lv_aload_n hx hb dX5_takeOver_1 rfl (lv_at hl 1 rfl) ?_
  refine zy_get (v := .int (σ q1 0)) X Z xL_ok hq1 rfl rfl (fun w h => List.mem_cons_of_mem _ (List.mem_append_right _ h)) 0 rfl (zz_m 1 rfl) rfl dX5_takeOver_2 ?_
  obtain ⟨σ1, es2, hf3⟩ := zLet hf
  clear hf
  refine zy_put (v := σ q1 0) (σ' := σ1) X Z xL_ok hq0 rfl rfl (fun w h => List.mem_cons_of_mem _ (List.mem_append_right _ h)) tyX5 tyX5_ok nmX5 0 rfl (zz_m 1 rfl) rfl rfl rfl (fun _ => rfl) (fun _ => rfl) es2 dX5_takeOver_5 (fun H4 lo5 Z6 => ?_)
  clear Z es2
  refine lv_aload_n hx hb dX5_takeOver_8 rfl (lv_at hl 0 rfl) ?_
  refine lv_aload_n hx hb dX5_takeOver_9 rfl (lv_at hl 1 rfl) ?_
  refine zy_get (v := .int (σ1 q1 1)) X Z6 xL_ok hq1 rfl rfl (fun w h => List.mem_cons_of_mem _ (List.mem_append_right _ h)) 1 rfl (zz_m 2 rfl) rfl dX5_takeOver_10 ?_
  obtain ⟨σ7, es8, hf9⟩ := zLet hf3
  clear hf3
  refine zy_put (v := σ1 q1 1) (σ' := σ7) X Z6 xL_ok hq0 rfl rfl (fun w h => List.mem_cons_of_mem _ (List.mem_append_right _ h)) tyX5 tyX5_ok nmX5 1 rfl (zz_m 2 rfl) rfl rfl rfl (fun _ => rfl) (fun _ => rfl) es8 dX5_takeOver_13 (fun H10 lo11 Z12 => ?_)
  clear Z6 es8
  refine lv_aload_n hx hb dX5_takeOver_16 rfl (lv_at hl 0 rfl) ?_
  refine lv_aload_n hx hb dX5_takeOver_17 rfl (lv_at hl 1 rfl) ?_
  refine zy_get (v := .int (σ7 q1 2)) X Z12 xL_ok hq1 rfl rfl (fun w h => List.mem_cons_of_mem _ (List.mem_append_right _ h)) 2 rfl (zz_m 3 rfl) rfl dX5_takeOver_18 ?_
  obtain ⟨σ13, es14, hf15⟩ := zLet hf9
  clear hf9
  refine zy_put (v := σ7 q1 2) (σ' := σ13) X Z12 xL_ok hq0 rfl rfl (fun w h => List.mem_cons_of_mem _ (List.mem_append_right _ h)) tyX5 tyX5_ok nmX5 2 rfl (zz_m 3 rfl) rfl rfl rfl (fun _ => rfl) (fun _ => rfl) es14 dX5_takeOver_21 (fun H16 lo17 Z18 => ?_)
  clear Z12 es14
  refine lv_aload_n hx hb dX5_takeOver_24 rfl (lv_at hl 1 rfl) ?_
  refine zy_get (v := .ref (ad (q1 + 1))) X Z18 xL_ok hq1 rfl rfl (fun w h => List.mem_cons_of_mem _ (List.mem_append_right _ h)) 3 rfl (zz_m 4 rfl) rfl dX5_takeOver_25 ?_
  refine lv_iconst (v := 0) hx hb dX5_takeOver_28 (by decide) ?_
  refine lv_aload_n hx hb dX5_takeOver_29 rfl (lv_at hl 0 rfl) ?_
  refine zy_get (v := .ref (ad (q0 + 1))) X Z18 xL_ok hq0 rfl rfl (fun w h => List.mem_cons_of_mem _ (List.mem_append_right _ h)) 3 rfl (zz_m 4 rfl) rfl dX5_takeOver_30 ?_
  refine lv_iconst (v := 0) hx hb dX5_takeOver_33 (by decide) ?_
  refine lv_bipush (v := 96) hx hb dX5_takeOver_34 (by decide) ?_
  obtain ⟨⟨z19, z20, z21, z22, z23⟩, hf24⟩ := zC hf15
  clear hf15
  obtain ⟨σ25, es26, hf27⟩ := zLet hf24
  clear hf24
  refine zy_cpy (σ' := σ25) X (by rw [hml]; exact hl.1.symm) Z18 xL_ok (zz_m 5 rfl) (zz_m 6 rfl) (zz_m 7 rfl) (zz_m 8 rfl) (xT1 hq1) (xT1l hq1) (xT1 hq0) (xT1l hq0) z19 z20 z21 z22 z23 (Nat.le_of_ble_eq_true rfl) (Nat.le_of_ble_eq_true rfl) es26 dX5_takeOver_36 (fun H28 lo29 Z30 => ?_)
  clear Z18 es26
  exact zy_vret X hr hlk Z30 (zEnd hf27) dX5_takeOver_39
def f_X0_enact (q0 : Nat) (q1 : Nat) (σ : zg_S) : Option (Int32 × zg_S) := (if 14 ≤ (σ q0 4) then some ((-1000000003), σ) else zbd (f_X6_within (σ q1 0) 0 2 σ) (fun (r4 : Int32) (σ5 : zg_S) => (if r4 = 0 then some ((-1000000003), σ5) else (if zin (σ5 q0 4) 14 = true then zbd (f_X5_takeOver (11 + 3 * (Int32.toNatClampNeg (σ5 q0 4))) q1 σ5) (fun (r16 : Int32) (σ17 : zg_S) => (if zin (σ17 q1 0) 3 = true then zlet (zg_up σ17 (q0 + 2) (Int32.toNatClampNeg (σ17 q1 0)) (σ17 q0 4)) (fun (σ26 : zg_S) => zlet (zg_up σ26 q0 4 ((σ26 q0 4) + 1)) (fun (σ32 : zg_S) => some ((σ32 q0 4) - 1, σ32))) else none)) else none))))
set_option maxHeartbeats 4000000 in
set_option maxRecDepth 100000 in
theorem c_X0_enact (l : Launch) (D : va_G) (V : zz_V) (ad : Nat → Nat) (cA : Nat → ClassId) (q0 : Nat) (q1 : Nat) (hq0 : XL.2.1 q0 = 0) (hq1 : XL.2.1 q1 = 5) (σ : zg_S) (r0 : Int32) (σf : zg_S) (hf : f_X0_enact q0 q1 σ = some (r0, σf)) : zM_I l yX0_enact wsX0_enact 2 81 D V XL ad cA [.ref (ad q0), .ref (ad q1)] σ r0 σf := by
  intro sz
  refine Met.ofW (cc := cX0_enact) (maxL := 2) (ret := (some .int)) (by decide) rfl ?_
  intro p e s m args below meth c s₁ B hml hv
  obtain ⟨rfl, hC⟩ := hv
  have hx := B.exec
  have hb := B.bytes
  have hr := B.returns
  have hts := atoms_spec (ws := wsX0_enact) B.pre
  have hown : s.vm.findClass RX0 = some m.cls := findClass_of_methodNamed B.named
  have hlk := B.notSynchronized
  have X : CallFix p m c cX0_enact 2 s _ wsX0_enact RX0 := ⟨hx, hb, hml, hown, hts⟩
  have Z := zz_enter hC
  generalize va_A (zg_W XL ad cA σ) sz = A at Z ⊢
  have hl := lv_entry ([.ref (ad q0), .ref (ad q1)]) (n := 2) (Nat.le_of_ble_eq_true rfl)
  rw [lg_entry_eq]
  generalize (lg_sl ([.ref (ad q0), .ref (ad q1)]) ++ List.replicate (2 - (lg_sl ([.ref (ad q0), .ref (ad q1)])).length) Slot.unset).toArray = ls at hl ⊢
  have hl : lv_has ls 2 [(0, .ref (ad q0)), (1, .ref (ad q1))] := hl
  unfold f_X0_enact at hf
  refine lv_aload_n hx hb dX0_enact_0 rfl (lv_at hl 0 rfl) ?_
  refine zy_get (v := .int (σ q0 4)) X Z xL_ok hq0 rfl rfl (fun w h => List.mem_cons_of_mem _ (List.mem_append_left _ (List.mem_append_right _ h))) 4 rfl (zz_m 1 rfl) rfl dX0_enact_1 ?_
  refine lv_bipush (v := 14) hx hb dX0_enact_4 (by decide) ?_
  refine lv_icmp_ge (tgt := 21) hx hb dX0_enact_6 (by decide) (fun b1 => ?_) (fun b1 => ?_)
  · have hf2 := zYes hf b1
    clear hf
    refine lv_ldc (v := (-1000000003)) hx hb hown (hts _ (zz_m 3 rfl)) dX0_enact_21 ?_
    exact zy_iret X hr hlk Z (zEnd hf2) dX0_enact_23
  · have hf3 := zNot hf b1
    clear hf
    refine lv_aload_n hx hb dX0_enact_9 rfl (lv_at hl 1 rfl) ?_
    refine zy_get (v := .int (σ q1 0)) X Z xL_ok hq1 rfl rfl (fun w h => List.mem_cons_of_mem _ (List.mem_append_right _ h)) 0 rfl (zz_m 2 rfl) rfl dX0_enact_10 ?_
    refine lv_iconst (v := 0) hx hb dX0_enact_13 (by decide) ?_
    refine lv_iconst (v := 2) hx hb dX0_enact_14 (by decide) ?_
    obtain ⟨r4, σ5, hc6, hf7⟩ := zBd hf3
    clear hf3
    refine zy_ci (r0 := r4) (WS1 := zg_W XL ad cA σ5) (TYS1 := zg_T XL cA) Z (va_runSN (As := [.int (σ q1 0), .int 0, .int 2]) (rest := []) X (c_X6_within l D V ad cA (σ q1 0) 0 2 σ r4 σ5 hc6 s.heap.size) ⟨va_cnB 3 hts gX0_enact_X6_within_n83 rfl rfl rfl (zz_nw (q := (RX0, 83, yX6_within, RX6)) Z.2.2.2.2.2 5 rfl) (hts _ (zz_m 7 rfl)) zh_X6_within ⟨Nat.le_of_ble_eq_true rfl, Nat.le_of_ble_eq_true rfl⟩, hts _ (zz_m 6 rfl), trivial⟩ (zz_pS Z) rfl rfl hl.1 rfl (lv_room (Nat.le_of_ble_eq_true rfl)) dX0_enact_15 ⟨Nat.le_of_ble_eq_true rfl, Nat.le_of_ble_eq_true rfl⟩) (fun H8 lo9 Z10 => ?_)
    clear Z hc6
    refine lv_if_ne (tgt := 24) hx hb dX0_enact_18 (by decide) (fun b11 => ?_) (fun b11 => ?_)
    · have hf12 := zNot hf7 b11
      clear hf7
      refine lv_aload_n hx hb dX0_enact_24 rfl (lv_at hl 0 rfl) ?_
      refine zy_get (v := .ref (ad 1)) X Z10 xL_ok hq0 rfl rfl (fun w h => List.mem_cons_of_mem _ (List.mem_append_left _ (List.mem_append_right _ h))) 0 rfl (zz_m 4 rfl) rfl dX0_enact_25 ?_
      refine lv_aload_n hx hb dX0_enact_28 rfl (lv_at hl 0 rfl) ?_
      refine zy_get (v := .int (σ5 q0 4)) X Z10 xL_ok hq0 rfl rfl (fun w h => List.mem_cons_of_mem _ (List.mem_append_left _ (List.mem_append_right _ h))) 4 rfl (zz_m 1 rfl) rfl dX0_enact_29 ?_
      obtain ⟨⟨i13, j14⟩, hf15⟩ := zG hf12
      clear hf12
      refine zy_ald (v := (11 + 3 * (Int32.toNatClampNeg (σ5 q0 4)))) (C := RX5) X Z10 xL_ok xk_1 rfl rfl xl_1 rfl i13 rfl dX0_enact_32 ?_
      refine lv_aload_n hx hb dX0_enact_33 rfl (lv_at hl 1 rfl) ?_
      obtain ⟨r16, σ17, hc18, hf19⟩ := zBd hf15
      clear hf15
      refine zy_cv (WS1 := zg_W XL ad cA σ17) (TYS1 := zg_T XL cA) Z10 (va_runV (As := [.ref (ad q1)]) (rest := []) X (c_X5_takeOver l D V ad cA (11 + 3 * (Int32.toNatClampNeg (σ5 q0 4))) q1 (xT j14) hq1 σ5 r16 σ17 hc18 H8.size) (cwV 1 hts gX0_enact_X5_takeOver rfl rfl rfl ⟨rfl, zh_X5_takeOver⟩ ⟨Nat.le_of_ble_eq_true rfl, Nat.le_of_ble_eq_true rfl⟩) (zy_pV (ci := 5) Z10 xL_ok (xT j14) rfl rfl) rfl rfl hl.1 rfl (lv_room (Nat.le_of_ble_eq_true rfl)) dX0_enact_34 ⟨Nat.le_of_ble_eq_true rfl, Nat.le_of_ble_eq_true rfl⟩) (fun H20 lo21 Z22 => ?_)
      clear Z10 hc18
      refine lv_aload_n hx hb dX0_enact_37 rfl (lv_at hl 0 rfl) ?_
      refine zy_get (v := .ref (ad (q0 + 2))) X Z22 xL_ok hq0 rfl rfl (fun w h => List.mem_cons_of_mem _ (List.mem_append_left _ (List.mem_append_right _ h))) 2 rfl (zz_m 5 rfl) rfl dX0_enact_38 ?_
      refine lv_aload_n hx hb dX0_enact_41 rfl (lv_at hl 1 rfl) ?_
      refine zy_get (v := .int (σ17 q1 0)) X Z22 xL_ok hq1 rfl rfl (fun w h => List.mem_cons_of_mem _ (List.mem_append_right _ h)) 0 rfl (zz_m 2 rfl) rfl dX0_enact_42 ?_
      refine lv_aload_n hx hb dX0_enact_45 rfl (lv_at hl 0 rfl) ?_
      refine zy_get (v := .int (σ17 q0 4)) X Z22 xL_ok hq0 rfl rfl (fun w h => List.mem_cons_of_mem _ (List.mem_append_left _ (List.mem_append_right _ h))) 4 rfl (zz_m 1 rfl) rfl dX0_enact_46 ?_
      obtain ⟨⟨i23, j24⟩, hf25⟩ := zG hf19
      clear hf19
      obtain ⟨σ26, es27, hf28⟩ := zLet hf25
      clear hf25
      refine zy_ist (σ' := σ26) X Z22 xL_ok (xB2 hq0) (xB2l hq0) i23 es27 dX0_enact_49 (fun H29 lo30 Z31 => ?_)
      clear Z22 es27
      refine lv_aload_n hx hb dX0_enact_50 rfl (lv_at hl 0 rfl) ?_
      refine lv_dup hx hb dX0_enact_51 rfl ?_
      refine zy_get (v := .int (σ26 q0 4)) X Z31 xL_ok hq0 rfl rfl (fun w h => List.mem_cons_of_mem _ (List.mem_append_left _ (List.mem_append_right _ h))) 4 rfl (zz_m 1 rfl) rfl dX0_enact_52 ?_
      refine lv_iconst (v := 1) hx hb dX0_enact_55 (by decide) ?_
      refine lv_iadd hx hb dX0_enact_56 ?_
      obtain ⟨σ32, es33, hf34⟩ := zLet hf28
      clear hf28
      refine zy_put (v := (σ26 q0 4) + 1) (σ' := σ32) X Z31 xL_ok hq0 rfl rfl (fun w h => List.mem_cons_of_mem _ (List.mem_append_left _ (List.mem_append_right _ h))) tyX0 tyX0_ok nmX0 4 rfl (zz_m 1 rfl) rfl rfl rfl (fun _ => rfl) (fun _ => rfl) es33 dX0_enact_57 (fun H35 lo36 Z37 => ?_)
      clear Z31 es33
      refine lv_aload_n hx hb dX0_enact_60 rfl (lv_at hl 0 rfl) ?_
      refine zy_get (v := .int (σ32 q0 4)) X Z37 xL_ok hq0 rfl rfl (fun w h => List.mem_cons_of_mem _ (List.mem_append_left _ (List.mem_append_right _ h))) 4 rfl (zz_m 1 rfl) rfl dX0_enact_61 ?_
      refine lv_iconst (v := 1) hx hb dX0_enact_64 (by decide) ?_
      refine lv_isub hx hb dX0_enact_65 ?_
      exact zy_iret X hr hlk Z37 (zEnd hf34) dX0_enact_66
    · have hf38 := zYes hf7 b11
      clear hf7
      refine lv_ldc (v := (-1000000003)) hx hb hown (hts _ (zz_m 3 rfl)) dX0_enact_21 ?_
      exact zy_iret X hr hlk Z10 (zEnd hf38) dX0_enact_23
def f_X0_slant (q0 : Nat) (σ : zg_S) : Option (Int32 × zg_S) := some ((((σ q0 7) - (σ q0 7) / 10 * 10) - 5) / 2, σ)
set_option maxHeartbeats 4000000 in
set_option maxRecDepth 100000 in
theorem c_X0_slant (l : Launch) (D : va_G) (V : zz_V) (ad : Nat → Nat) (cA : Nat → ClassId) (q0 : Nat) (hq0 : XL.2.1 q0 = 0) (σ : zg_S) (r0 : Int32) (σf : zg_S) (hf : f_X0_slant q0 σ = some (r0, σf)) : zM_I l yX0_slant wsX0_slant 0 0 D V XL ad cA [.ref (ad q0)] σ r0 σf := by
  intro sz
  refine Met.ofW (cc := cX0_slant) (maxL := 1) (ret := (some .int)) (by decide) rfl ?_
  intro p e s m args below meth c s₁ B hml hv
  obtain ⟨rfl, hC⟩ := hv
  have hx := B.exec
  have hb := B.bytes
  have hr := B.returns
  have hts := atoms_spec (ws := wsX0_slant) B.pre
  have hown : s.vm.findClass RX0 = some m.cls := findClass_of_methodNamed B.named
  have hlk := B.notSynchronized
  have X : CallFix p m c cX0_slant 1 s _ wsX0_slant RX0 := ⟨hx, hb, hml, hown, hts⟩
  have Z := zz_enter hC
  generalize va_A (zg_W XL ad cA σ) sz = A at Z ⊢
  have hl := lv_entry ([.ref (ad q0)]) (n := 1) (Nat.le_of_ble_eq_true rfl)
  rw [lg_entry_eq]
  generalize (lg_sl ([.ref (ad q0)]) ++ List.replicate (1 - (lg_sl ([.ref (ad q0)])).length) Slot.unset).toArray = ls at hl ⊢
  have hl : lv_has ls 1 [(0, .ref (ad q0))] := hl
  unfold f_X0_slant at hf
  refine lv_aload_n hx hb dX0_slant_0 rfl (lv_at hl 0 rfl) ?_
  refine zy_get (v := .int (σ q0 7)) X Z xL_ok hq0 rfl rfl (fun w h => List.mem_cons_of_mem _ (List.mem_append_right _ h)) 7 rfl (zz_m 1 rfl) rfl dX0_slant_1 ?_
  refine lv_bipush (v := 10) hx hb dX0_slant_4 (by decide) ?_
  refine lv_irem hx hb dX0_slant_6 (by decide) ?_
  refine lv_iconst (v := 5) hx hb dX0_slant_7 (by decide) ?_
  refine lv_isub hx hb dX0_slant_8 ?_
  refine lv_iconst (v := 2) hx hb dX0_slant_9 (by decide) ?_
  refine lv_idiv hx hb dX0_slant_10 (by decide) ?_
  exact zy_iret X hr hlk Z (zEnd hf) dX0_slant_11
def f_X0_wouldShade (q0 : Nat) (a1 : Int32) (a2 : Int32) (σ : zg_S) : Option (Int32 × zg_S) := zbd (f_X0_slant q0 σ) (fun (r1 : Int32) (σ2 : zg_S) => (if a2 < (a1 + r1) then some (0, σ2) else (if ((a1 + r1) + (σ2 q0 5)) ≤ a2 then some (0, σ2) else some (1, σ2))))
set_option maxHeartbeats 4000000 in
set_option maxRecDepth 100000 in
theorem c_X0_wouldShade (l : Launch) (D : va_G) (V : zz_V) (ad : Nat → Nat) (cA : Nat → ClassId) (q0 : Nat) (a1 : Int32) (a2 : Int32) (hq0 : XL.2.1 q0 = 0) (σ : zg_S) (r0 : Int32) (σf : zg_S) (hf : f_X0_wouldShade q0 a1 a2 σ = some (r0, σf)) : zM_I l yX0_wouldShade wsX0_wouldShade 1 20 D V XL ad cA [.ref (ad q0), .int a1, .int a2] σ r0 σf := by
  intro sz
  refine Met.ofW (cc := cX0_wouldShade) (maxL := 4) (ret := (some .boolean)) (by decide) rfl ?_
  intro p e s m args below meth c s₁ B hml hv
  obtain ⟨rfl, hC⟩ := hv
  have hx := B.exec
  have hb := B.bytes
  have hr := B.returns
  have hts := atoms_spec (ws := wsX0_wouldShade) B.pre
  have hown : s.vm.findClass RX0 = some m.cls := findClass_of_methodNamed B.named
  have hlk := B.notSynchronized
  have X : CallFix p m c cX0_wouldShade 4 s _ wsX0_wouldShade RX0 := ⟨hx, hb, hml, hown, hts⟩
  have Z := zz_enter hC
  generalize va_A (zg_W XL ad cA σ) sz = A at Z ⊢
  have hl := lv_entry ([.ref (ad q0), .int a1, .int a2]) (n := 4) (Nat.le_of_ble_eq_true rfl)
  rw [lg_entry_eq]
  generalize (lg_sl ([.ref (ad q0), .int a1, .int a2]) ++ List.replicate (4 - (lg_sl ([.ref (ad q0), .int a1, .int a2])).length) Slot.unset).toArray = ls at hl ⊢
  have hl : lv_has ls 4 [(0, .ref (ad q0)), (1, .int a1), (2, .int a2)] := hl
  unfold f_X0_wouldShade at hf
  refine lv_iload_n hx hb dX0_wouldShade_0 rfl (lv_at hl 1 rfl) ?_
  refine lv_aload_n hx hb dX0_wouldShade_1 rfl (lv_at hl 0 rfl) ?_
  obtain ⟨r1, σ2, hc3, hf4⟩ := zBd hf
  clear hf
  refine zy_ci (r0 := r1) (WS1 := zg_W XL ad cA σ2) (TYS1 := zg_T XL cA) Z (va_runV (As := []) (rest := [.int a1]) X (c_X0_slant l D V ad cA q0 hq0 σ r1 σ2 hc3 s.heap.size) (cwV 0 hts gX0_wouldShade_X0_slant rfl rfl rfl ⟨rfl, zh_X0_slant⟩ ⟨Nat.le_of_ble_eq_true rfl, Nat.le_of_ble_eq_true rfl⟩) (zy_pV (ci := 0) Z xL_ok hq0 rfl rfl) rfl rfl hl.1 rfl (lv_room (Nat.le_of_ble_eq_true rfl)) dX0_wouldShade_2 ⟨Nat.le_of_ble_eq_true rfl, Nat.le_of_ble_eq_true rfl⟩) (fun H5 lo6 Z7 => ?_)
  clear Z hc3
  refine lv_iadd hx hb dX0_wouldShade_5 ?_
  refine lv_istore_n (lv' := [(3, .int (a1 + r1)), (0, .ref (ad q0)), (1, .int a1), (2, .int a2)]) hx hb dX0_wouldShade_6 rfl hl (by decide) rfl (fun ls9 hl8 => ?_)
  clear hl
  refine lv_iload_n hx hb dX0_wouldShade_7 rfl (lv_at hl8 3 rfl) ?_
  refine lv_iload_n hx hb dX0_wouldShade_8 rfl (lv_at hl8 0 rfl) ?_
  refine lv_icmp_lt (tgt := 26) hx hb dX0_wouldShade_9 (by decide) (fun b10 => ?_) (fun b10 => ?_)
  · have hf11 := zYes hf4 b10
    clear hf4
    refine lv_iconst (v := 0) hx hb dX0_wouldShade_26 (by decide) ?_
    exact zy_zret X hr hlk Z7 (by decide) (zEnd hf11) dX0_wouldShade_27
  · have hf12 := zNot hf4 b10
    clear hf4
    refine lv_iload_n hx hb dX0_wouldShade_12 rfl (lv_at hl8 3 rfl) ?_
    refine lv_iload_n hx hb dX0_wouldShade_13 rfl (lv_at hl8 0 rfl) ?_
    refine lv_aload_n hx hb dX0_wouldShade_14 rfl (lv_at hl8 1 rfl) ?_
    refine zy_get (v := .int (σ2 q0 5)) X Z7 xL_ok hq0 rfl rfl (fun w h => List.mem_cons_of_mem _ (List.mem_append_right _ h)) 5 rfl (zz_m 1 rfl) rfl dX0_wouldShade_15 ?_
    refine lv_iadd hx hb dX0_wouldShade_18 ?_
    refine lv_icmp_ge (tgt := 26) hx hb dX0_wouldShade_19 (by decide) (fun b13 => ?_) (fun b13 => ?_)
    · have hf14 := zYes hf12 b13
      clear hf12
      refine lv_iconst (v := 0) hx hb dX0_wouldShade_26 (by decide) ?_
      exact zy_zret X hr hlk Z7 (by decide) (zEnd hf14) dX0_wouldShade_27
    · have hf15 := zNot hf12 b13
      clear hf12
      refine lv_iconst (v := 1) hx hb dX0_wouldShade_22 (by decide) ?_
      refine lv_goto (tgt := 27) hx hb dX0_wouldShade_23 (by decide) ?_
      exact zy_zret X hr hlk Z7 (by decide) (zEnd hf15) dX0_wouldShade_27
def f_X0_shades (q0 : Nat) (a1 : Int32) (σ : zg_S) : Option (Int32 × zg_S) := zbd (f_X0_wouldShade q0 (σ q0 6) a1 σ) (fun (r1 : Int32) (σ2 : zg_S) => (if r1 = 0 ∨ r1 = 1 then some (r1, σ2) else none))
set_option maxHeartbeats 4000000 in
set_option maxRecDepth 100000 in
theorem c_X0_shades (l : Launch) (D : va_G) (V : zz_V) (ad : Nat → Nat) (cA : Nat → ClassId) (q0 : Nat) (a1 : Int32) (hq0 : XL.2.1 q0 = 0) (σ : zg_S) (r0 : Int32) (σf : zg_S) (hf : f_X0_shades q0 a1 σ = some (r0, σf)) : zM_I l yX0_shades wsX0_shades 2 43 D V XL ad cA [.ref (ad q0), .int a1] σ r0 σf := by
  intro sz
  refine Met.ofW (cc := cX0_shades) (maxL := 2) (ret := (some .boolean)) (by decide) rfl ?_
  intro p e s m args below meth c s₁ B hml hv
  obtain ⟨rfl, hC⟩ := hv
  have hx := B.exec
  have hb := B.bytes
  have hr := B.returns
  have hts := atoms_spec (ws := wsX0_shades) B.pre
  have hown : s.vm.findClass RX0 = some m.cls := findClass_of_methodNamed B.named
  have hlk := B.notSynchronized
  have X : CallFix p m c cX0_shades 2 s _ wsX0_shades RX0 := ⟨hx, hb, hml, hown, hts⟩
  have Z := zz_enter hC
  generalize va_A (zg_W XL ad cA σ) sz = A at Z ⊢
  have hl := lv_entry ([.ref (ad q0), .int a1]) (n := 2) (Nat.le_of_ble_eq_true rfl)
  rw [lg_entry_eq]
  generalize (lg_sl ([.ref (ad q0), .int a1]) ++ List.replicate (2 - (lg_sl ([.ref (ad q0), .int a1])).length) Slot.unset).toArray = ls at hl ⊢
  have hl : lv_has ls 2 [(0, .ref (ad q0)), (1, .int a1)] := hl
  unfold f_X0_shades at hf
  refine lv_aload_n hx hb dX0_shades_0 rfl (lv_at hl 0 rfl) ?_
  refine lv_aload_n hx hb dX0_shades_1 rfl (lv_at hl 0 rfl) ?_
  refine zy_get (v := .int (σ q0 6)) X Z xL_ok hq0 rfl rfl (fun w h => List.mem_cons_of_mem _ (List.mem_append_right _ h)) 6 rfl (zz_m 1 rfl) rfl dX0_shades_2 ?_
  refine lv_iload_n hx hb dX0_shades_5 rfl (lv_at hl 1 rfl) ?_
  obtain ⟨r1, σ2, hc3, hf4⟩ := zBd hf
  clear hf
  refine zy_ci (r0 := r1) (WS1 := zg_W XL ad cA σ2) (TYS1 := zg_T XL cA) Z (va_runV (As := [.int (σ q0 6), .int a1]) (rest := []) X (c_X0_wouldShade l D V ad cA q0 (σ q0 6) a1 hq0 σ r1 σ2 hc3 s.heap.size) (cwV 2 hts gX0_shades_X0_wouldShade rfl rfl rfl ⟨rfl, zh_X0_wouldShade⟩ ⟨Nat.le_of_ble_eq_true rfl, Nat.le_of_ble_eq_true rfl⟩) (zy_pV (ci := 0) Z xL_ok hq0 rfl rfl) rfl rfl hl.1 rfl (lv_room (Nat.le_of_ble_eq_true rfl)) dX0_shades_6 ⟨Nat.le_of_ble_eq_true rfl, Nat.le_of_ble_eq_true rfl⟩) (fun H5 lo6 Z7 => ?_)
  clear Z hc3
  obtain ⟨z9, hf8⟩ := zC hf4
  exact zy_zret X hr hlk Z7 z9 (zEnd hf8) dX0_shades_9
def B_X0_firstShaded_2 (q0 : Nat) (rec2_ : Int32 → zg_S → Option (Int32 × zg_S)) (x1 : Int32) (σ : zg_S) : Option (Int32 × zg_S) := (if 12 ≤ x1 then some ((-1000000005), σ) else zbd (f_X0_shades q0 x1 σ) (fun (r4 : Int32) (σ5 : zg_S) => (if r4 = 0 then rec2_ (x1 + 1) σ5 else some (x1, σ5))))
def L_X0_firstShaded_2 (q0 : Nat) : Nat → Int32 → zg_S → Option (Int32 × zg_S) := zfix (fun _ _ => none) (B_X0_firstShaded_2 q0)
def f_X0_firstShaded (q0 : Nat) (σ : zg_S) : Option (Int32 × zg_S) := L_X0_firstShaded_2 q0 zfu 0 σ
set_option maxHeartbeats 4000000 in
set_option maxRecDepth 100000 in
theorem c_X0_firstShaded (l : Launch) (D : va_G) (V : zz_V) (ad : Nat → Nat) (cA : Nat → ClassId) (q0 : Nat) (hq0 : XL.2.1 q0 = 0) (σ : zg_S) (r0 : Int32) (σf : zg_S) (hf : f_X0_firstShaded q0 σ = some (r0, σf)) : zM_I l yX0_firstShaded wsX0_firstShaded 3 64 D V XL ad cA [.ref (ad q0)] σ r0 σf := by
  intro sz
  refine Met.ofW (cc := cX0_firstShaded) (maxL := 2) (ret := (some .int)) (by decide) rfl ?_
  intro p e s m args below meth c s₁ B hml hv
  obtain ⟨rfl, hC⟩ := hv
  have hx := B.exec
  have hb := B.bytes
  have hr := B.returns
  have hts := atoms_spec (ws := wsX0_firstShaded) B.pre
  have hown : s.vm.findClass RX0 = some m.cls := findClass_of_methodNamed B.named
  have hlk := B.notSynchronized
  have X : CallFix p m c cX0_firstShaded 2 s _ wsX0_firstShaded RX0 := ⟨hx, hb, hml, hown, hts⟩
  have Z := zz_enter hC
  generalize va_A (zg_W XL ad cA σ) sz = A at Z ⊢
  have hl := lv_entry ([.ref (ad q0)]) (n := 2) (Nat.le_of_ble_eq_true rfl)
  rw [lg_entry_eq]
  generalize (lg_sl ([.ref (ad q0)]) ++ List.replicate (2 - (lg_sl ([.ref (ad q0)])).length) Slot.unset).toArray = ls at hl ⊢
  have hl : lv_has ls 2 [(0, .ref (ad q0))] := hl
  unfold f_X0_firstShaded at hf
  have b2_ : ∀ (k2_ : Nat) (x1 : Int32) (σ : zg_S), L_X0_firstShaded_2 q0 k2_ x1 σ = some (r0, σf) → ∀ (H : Heap) (locs : List Loc) (ls : Array Slot), zz_S D V A s (zg_W XL ad cA σ) (zg_T XL cA) H locs → lv_has ls 2 [(0, .ref (ad q0)), (1, .int x1)] → W p l e (headSpec wsX0_firstShaded { frames := 3, cells := 0, slots := 0, locals := 64 }).room s m (List.toArray [.ref (ad q0)]) below meth c H locs 0 0 (MQ below (va_Qi (fun r (_ : Unit) => r = r0) (fun _ t => zz_B D A (zg_W XL ad cA σf) (zg_T XL cA) t) A) (List.toArray [.ref (ad q0)]) s 0 0 A) (F0 m 2 ls []) := by
    intro k2_
    induction k2_ with
    | zero =>
        intro x1 σ hf2_ H2_ locs2_ ls2_ Z2_ hl2_
        exact zNone hf2_
    | succ k2_ ih2_ =>
        intro x1 σ hf2_ H2_ locs2_ ls2_ Z2_ hl2_
        replace hf2_ : B_X0_firstShaded_2 q0 (L_X0_firstShaded_2 q0 k2_) x1 σ = some (r0, σf) := hf2_
        unfold B_X0_firstShaded_2 at hf2_
        refine lv_iload_n hx hb dX0_firstShaded_2 rfl (lv_at hl2_ 1 rfl) ?_
        refine lv_bipush (v := 12) hx hb dX0_firstShaded_3 (by decide) ?_
        refine lv_icmp_ge (tgt := 24) hx hb dX0_firstShaded_5 (by decide) (fun b1 => ?_) (fun b1 => ?_)
        · have hf2 := zYes hf2_ b1
          clear hf2_
          refine lv_ldc (v := (-1000000005)) hx hb hown (hts _ (zz_m 1 rfl)) dX0_firstShaded_24 ?_
          exact zy_iret X hr hlk Z2_ (zEnd hf2) dX0_firstShaded_26
        · have hf3 := zNot hf2_ b1
          clear hf2_
          refine lv_aload_n hx hb dX0_firstShaded_8 rfl (lv_at hl2_ 0 rfl) ?_
          refine lv_iload_n hx hb dX0_firstShaded_9 rfl (lv_at hl2_ 1 rfl) ?_
          obtain ⟨r4, σ5, hc6, hf7⟩ := zBd hf3
          clear hf3
          refine zy_ci (r0 := r4) (WS1 := zg_W XL ad cA σ5) (TYS1 := zg_T XL cA) Z2_ (va_runV (As := [.int x1]) (rest := []) X (c_X0_shades l D V ad cA q0 x1 hq0 σ r4 σ5 hc6 H2_.size) (cwV 1 hts gX0_firstShaded_X0_shades rfl rfl rfl ⟨rfl, zh_X0_shades⟩ ⟨Nat.le_of_ble_eq_true rfl, Nat.le_of_ble_eq_true rfl⟩) (zy_pV (ci := 0) Z2_ xL_ok hq0 rfl rfl) rfl rfl hl2_.1 rfl (lv_room (Nat.le_of_ble_eq_true rfl)) dX0_firstShaded_10 ⟨Nat.le_of_ble_eq_true rfl, Nat.le_of_ble_eq_true rfl⟩) (fun H8 lo9 Z10 => ?_)
          clear Z2_ hc6
          refine lv_if_eq (tgt := 18) hx hb dX0_firstShaded_13 (by decide) (fun b11 => ?_) (fun b11 => ?_)
          · have hf12 := zYes hf7 b11
            clear hf7
            refine lv_iinc (v := (x1 + 1)) (lv' := [(1, .int (x1 + 1)), (0, .ref (ad q0))]) hx hb dX0_firstShaded_18 hl2_ (k := 1) rfl rfl (by decide) rfl (fun ls14 hl13 => ?_)
            clear hl2_
            refine lv_goto (tgt := 2) hx hb dX0_firstShaded_21 (by decide) ?_
            exact ih2_ (x1 + 1) σ5 hf12 _ _ _ Z10 (lv_sub hl13 [1, 0] rfl)
          · have hf15 := zNot hf7 b11
            clear hf7
            refine lv_iload_n hx hb dX0_firstShaded_16 rfl (lv_at hl2_ 1 rfl) ?_
            exact zy_iret X hr hlk Z10 (zEnd hf15) dX0_firstShaded_17
  refine lv_iconst (v := 0) hx hb dX0_firstShaded_0 (by decide) ?_
  refine lv_istore_n (lv' := [(1, .int 0), (0, .ref (ad q0))]) hx hb dX0_firstShaded_1 rfl hl (by decide) rfl (fun ls17 hl16 => ?_)
  clear hl
  exact b2_ zfu 0 σ hf _ _ _ Z (lv_sub hl16 [1, 0] rfl)
def f_X0_hauledTo (q0 : Nat) (a1 : Int32) (σ : zg_S) : Option (Int32 × zg_S) := (if a1 = 1 then zlet (if ((σ q0 6) - 1) < 0 then 0 else (σ q0 6) - 1) (fun (y3 : Int32) => some (y3, σ)) else (if a1 = 2 then zbd (f_X0_lastFirst q0 σ) (fun (r9 : Int32) (σ10 : zg_S) => zlet (if r9 < ((σ q0 6) + 1) then r9 else (σ q0 6) + 1) (fun (y16 : Int32) => some (y16, σ10))) else some (σ q0 6, σ)))
set_option maxHeartbeats 4000000 in
set_option maxRecDepth 100000 in
theorem c_X0_hauledTo (l : Launch) (D : va_G) (V : zz_V) (ad : Nat → Nat) (cA : Nat → ClassId) (q0 : Nat) (a1 : Int32) (hq0 : XL.2.1 q0 = 0) (σ : zg_S) (r0 : Int32) (σf : zg_S) (hf : f_X0_hauledTo q0 a1 σ = some (r0, σf)) : zM_I l yX0_hauledTo wsX0_hauledTo 1 24 D V XL ad cA [.ref (ad q0), .int a1] σ r0 σf := by
  intro sz
  refine Met.ofW (cc := cX0_hauledTo) (maxL := 2) (ret := (some .int)) (by decide) rfl ?_
  intro p e s m args below meth c s₁ B hml hv
  obtain ⟨rfl, hC⟩ := hv
  have hx := B.exec
  have hb := B.bytes
  have hr := B.returns
  have hts := atoms_spec (ws := wsX0_hauledTo) B.pre
  have hown : s.vm.findClass RX0 = some m.cls := findClass_of_methodNamed B.named
  have hlk := B.notSynchronized
  have X : CallFix p m c cX0_hauledTo 2 s _ wsX0_hauledTo RX0 := ⟨hx, hb, hml, hown, hts⟩
  have Z := zz_enter hC
  generalize va_A (zg_W XL ad cA σ) sz = A at Z ⊢
  have hl := lv_entry ([.ref (ad q0), .int a1]) (n := 2) (Nat.le_of_ble_eq_true rfl)
  rw [lg_entry_eq]
  generalize (lg_sl ([.ref (ad q0), .int a1]) ++ List.replicate (2 - (lg_sl ([.ref (ad q0), .int a1])).length) Slot.unset).toArray = ls at hl ⊢
  have hl : lv_has ls 2 [(0, .ref (ad q0)), (1, .int a1)] := hl
  unfold f_X0_hauledTo at hf
  refine lv_iload_n hx hb dX0_hauledTo_0 rfl (lv_at hl 1 rfl) ?_
  by_cases w1 : a1 = 1
  · have hf2 := zYes hf w1
    clear hf
    refine zz_v w1 ?_
    refine lv_lookup (x := 1) (off := 27) (tgt := 28) hx hb dX0_hauledTo_1 (by decide) (by decide) (by decide) ?_
    refine lv_aload_n hx hb dX0_hauledTo_28 rfl (lv_at hl 0 rfl) ?_
    refine zy_get (v := .int (σ q0 6)) X Z xL_ok hq0 rfl rfl (fun w h => List.mem_cons_of_mem _ (List.mem_append_right _ h)) 6 rfl (zz_m 1 rfl) rfl dX0_hauledTo_29 ?_
    refine lv_iconst (v := 1) hx hb dX0_hauledTo_32 (by decide) ?_
    refine lv_isub hx hb dX0_hauledTo_33 ?_
    refine lv_iconst (v := 0) hx hb dX0_hauledTo_34 (by decide) ?_
    refine va_mmax hx hb (by rw [hml]; exact hl.1.symm) hown (hts _ (zz_m 2 rfl)) (hts _ (zz_m 3 rfl)) (hts _ (zz_m 4 rfl)) (hts _ (zz_m 5 rfl)) (Nat.le_of_ble_eq_true rfl) (Nat.le_of_ble_eq_true rfl) (Nat.le_of_ble_eq_true rfl) (Nat.le_of_ble_eq_true rfl) dX0_hauledTo_35 ?_
    obtain ⟨y3, ey4, hf5⟩ := zLet hf2
    clear hf2
    refine zz_v (v := y3) ey4.symm ?_
    clear ey4
    exact zy_iret X hr hlk Z (zEnd hf5) dX0_hauledTo_38
  · have hf6 := zNot hf w1
    clear hf
    by_cases w7 : a1 = 2
    · have hf8 := zYes hf6 w7
      clear hf6
      refine zz_v w7 ?_
      refine lv_lookup (x := 2) (off := 38) (tgt := 39) hx hb dX0_hauledTo_1 (by decide) (by decide) (by decide) ?_
      refine lv_aload_n hx hb dX0_hauledTo_39 rfl (lv_at hl 0 rfl) ?_
      refine zy_get (v := .int (σ q0 6)) X Z xL_ok hq0 rfl rfl (fun w h => List.mem_cons_of_mem _ (List.mem_append_right _ h)) 6 rfl (zz_m 1 rfl) rfl dX0_hauledTo_40 ?_
      refine lv_iconst (v := 1) hx hb dX0_hauledTo_43 (by decide) ?_
      refine lv_iadd hx hb dX0_hauledTo_44 ?_
      refine lv_aload_n hx hb dX0_hauledTo_45 rfl (lv_at hl 0 rfl) ?_
      obtain ⟨r9, σ10, hc11, hf12⟩ := zBd hf8
      clear hf8
      refine zy_ci (r0 := r9) (WS1 := zg_W XL ad cA σ10) (TYS1 := zg_T XL cA) Z (va_runV (As := []) (rest := [.int ((σ q0 6) + 1)]) X (c_X0_lastFirst l D V ad cA q0 hq0 σ r9 σ10 hc11 s.heap.size) (cwV 0 hts gX0_hauledTo_X0_lastFirst rfl rfl rfl ⟨rfl, zh_X0_lastFirst⟩ ⟨Nat.le_of_ble_eq_true rfl, Nat.le_of_ble_eq_true rfl⟩) (zy_pV (ci := 0) Z xL_ok hq0 rfl rfl) rfl rfl hl.1 rfl (lv_room (Nat.le_of_ble_eq_true rfl)) dX0_hauledTo_46 ⟨Nat.le_of_ble_eq_true rfl, Nat.le_of_ble_eq_true rfl⟩) (fun H13 lo14 Z15 => ?_)
      clear Z hc11
      refine va_mmin hx hb (by rw [hml]; exact hl.1.symm) hown (hts _ (zz_m 6 rfl)) (hts _ (zz_m 7 rfl)) (hts _ (zz_m 4 rfl)) (hts _ (zz_m 8 rfl)) (Nat.le_of_ble_eq_true rfl) (Nat.le_of_ble_eq_true rfl) (Nat.le_of_ble_eq_true rfl) (Nat.le_of_ble_eq_true rfl) dX0_hauledTo_49 ?_
      obtain ⟨y16, ey17, hf18⟩ := zLet hf12
      clear hf12
      refine zz_v (v := y16) ey17.symm ?_
      clear ey17
      exact zy_iret X hr hlk Z15 (zEnd hf18) dX0_hauledTo_52
    · have hf19 := zNot hf6 w7
      clear hf6
      have n20 := zNe (k := 1) (y := 1) (by decide) w1
      have n21 := zNe (k := 2) (y := 2) (by decide) w7
      refine lv_lookup (off := 52) (tgt := 53) hx hb dX0_hauledTo_1 (by decide) (by simp [Op.lookupswitch.offset, n20, n21, Ne.symm n20, Ne.symm n21]) (by decide) ?_
      refine lv_aload_n hx hb dX0_hauledTo_53 rfl (lv_at hl 0 rfl) ?_
      refine zy_get (v := .int (σ q0 6)) X Z xL_ok hq0 rfl rfl (fun w h => List.mem_cons_of_mem _ (List.mem_append_right _ h)) 6 rfl (zz_m 1 rfl) rfl dX0_hauledTo_54 ?_
      exact zy_iret X hr hlk Z (zEnd hf19) dX0_hauledTo_57
def f_X4_shadeLoss (q0 : Nat) (σ : zg_S) : Option (Int32 × zg_S) := (if (σ q0 0) = 4 then some (2, σ) else some (0, σ))
set_option maxHeartbeats 4000000 in
set_option maxRecDepth 100000 in
theorem c_X4_shadeLoss (l : Launch) (D : va_G) (V : zz_V) (ad : Nat → Nat) (cA : Nat → ClassId) (q0 : Nat) (hq0 : XL.2.1 q0 = 4) (σ : zg_S) (r0 : Int32) (σf : zg_S) (hf : f_X4_shadeLoss q0 σ = some (r0, σf)) : zM_I l yX4_shadeLoss wsX4_shadeLoss 0 0 D V XL ad cA [.ref (ad q0)] σ r0 σf := by
  intro sz
  refine Met.ofW (cc := cX4_shadeLoss) (maxL := 1) (ret := (some .int)) (by decide) rfl ?_
  intro p e s m args below meth c s₁ B hml hv
  obtain ⟨rfl, hC⟩ := hv
  have hx := B.exec
  have hb := B.bytes
  have hr := B.returns
  have hts := atoms_spec (ws := wsX4_shadeLoss) B.pre
  have hown : s.vm.findClass RX4 = some m.cls := findClass_of_methodNamed B.named
  have hlk := B.notSynchronized
  have X : CallFix p m c cX4_shadeLoss 1 s _ wsX4_shadeLoss RX4 := ⟨hx, hb, hml, hown, hts⟩
  have Z := zz_enter hC
  generalize va_A (zg_W XL ad cA σ) sz = A at Z ⊢
  have hl := lv_entry ([.ref (ad q0)]) (n := 1) (Nat.le_of_ble_eq_true rfl)
  rw [lg_entry_eq]
  generalize (lg_sl ([.ref (ad q0)]) ++ List.replicate (1 - (lg_sl ([.ref (ad q0)])).length) Slot.unset).toArray = ls at hl ⊢
  have hl : lv_has ls 1 [(0, .ref (ad q0))] := hl
  unfold f_X4_shadeLoss at hf
  refine lv_aload_n hx hb dX4_shadeLoss_0 rfl (lv_at hl 0 rfl) ?_
  refine zy_get (v := .int (σ q0 0)) X Z xL_ok hq0 rfl rfl (fun w h => List.mem_cons_of_mem _ (List.mem_append_right _ h)) 0 rfl (zz_m 1 rfl) rfl dX4_shadeLoss_1 ?_
  refine lv_iconst (v := 4) hx hb dX4_shadeLoss_4 (by decide) ?_
  refine lv_icmp_ne (tgt := 12) hx hb dX4_shadeLoss_5 (by decide) (fun b1 => ?_) (fun b1 => ?_)
  · have hf2 := zNot hf b1
    clear hf
    refine lv_iconst (v := 0) hx hb dX4_shadeLoss_12 (by decide) ?_
    exact zy_iret X hr hlk Z (zEnd hf2) dX4_shadeLoss_13
  · have hf3 := zYes hf b1
    clear hf
    refine lv_iconst (v := 2) hx hb dX4_shadeLoss_8 (by decide) ?_
    refine lv_goto (tgt := 13) hx hb dX4_shadeLoss_9 (by decide) ?_
    exact zy_iret X hr hlk Z (zEnd hf3) dX4_shadeLoss_13
def f_X0_heat (q0 : Nat) (σ : zg_S) : Option (Int32 × zg_S) := zlet (if 0 ≤ (((σ q0 7) - (σ q0 7) / 10 * 10) - 5) then ((σ q0 7) - (σ q0 7) / 10 * 10) - 5 else 0 - (((σ q0 7) - (σ q0 7) / 10 * 10) - 5)) (fun (y1 : Int32) => some (45 - (5 * y1), σ))
set_option maxHeartbeats 4000000 in
set_option maxRecDepth 100000 in
theorem c_X0_heat (l : Launch) (D : va_G) (V : zz_V) (ad : Nat → Nat) (cA : Nat → ClassId) (q0 : Nat) (hq0 : XL.2.1 q0 = 0) (σ : zg_S) (r0 : Int32) (σf : zg_S) (hf : f_X0_heat q0 σ = some (r0, σf)) : zM_I l yX0_heat wsX0_heat 1 24 D V XL ad cA [.ref (ad q0)] σ r0 σf := by
  intro sz
  refine Met.ofW (cc := cX0_heat) (maxL := 1) (ret := (some .int)) (by decide) rfl ?_
  intro p e s m args below meth c s₁ B hml hv
  obtain ⟨rfl, hC⟩ := hv
  have hx := B.exec
  have hb := B.bytes
  have hr := B.returns
  have hts := atoms_spec (ws := wsX0_heat) B.pre
  have hown : s.vm.findClass RX0 = some m.cls := findClass_of_methodNamed B.named
  have hlk := B.notSynchronized
  have X : CallFix p m c cX0_heat 1 s _ wsX0_heat RX0 := ⟨hx, hb, hml, hown, hts⟩
  have Z := zz_enter hC
  generalize va_A (zg_W XL ad cA σ) sz = A at Z ⊢
  have hl := lv_entry ([.ref (ad q0)]) (n := 1) (Nat.le_of_ble_eq_true rfl)
  rw [lg_entry_eq]
  generalize (lg_sl ([.ref (ad q0)]) ++ List.replicate (1 - (lg_sl ([.ref (ad q0)])).length) Slot.unset).toArray = ls at hl ⊢
  have hl : lv_has ls 1 [(0, .ref (ad q0))] := hl
  unfold f_X0_heat at hf
  refine lv_bipush (v := 45) hx hb dX0_heat_0 (by decide) ?_
  refine lv_iconst (v := 5) hx hb dX0_heat_2 (by decide) ?_
  refine lv_aload_n hx hb dX0_heat_3 rfl (lv_at hl 0 rfl) ?_
  refine zy_get (v := .int (σ q0 7)) X Z xL_ok hq0 rfl rfl (fun w h => List.mem_cons_of_mem _ (List.mem_append_right _ h)) 7 rfl (zz_m 1 rfl) rfl dX0_heat_4 ?_
  refine lv_bipush (v := 10) hx hb dX0_heat_7 (by decide) ?_
  refine lv_irem hx hb dX0_heat_9 (by decide) ?_
  refine lv_iconst (v := 5) hx hb dX0_heat_10 (by decide) ?_
  refine lv_isub hx hb dX0_heat_11 ?_
  refine va_mabs hx hb (by rw [hml]; exact hl.1.symm) hown (hts _ (zz_m 2 rfl)) (hts _ (zz_m 3 rfl)) (hts _ (zz_m 4 rfl)) (hts _ (zz_m 5 rfl)) (Nat.le_of_ble_eq_true rfl) (Nat.le_of_ble_eq_true rfl) (Nat.le_of_ble_eq_true rfl) (Nat.le_of_ble_eq_true rfl) dX0_heat_12 ?_
  obtain ⟨y1, ey2, hf3⟩ := zLet hf
  clear hf
  refine zz_v (v := y1) ey2.symm ?_
  clear ey2
  refine lv_imul hx hb dX0_heat_15 ?_
  refine lv_isub hx hb dX0_heat_16 ?_
  exact zy_iret X hr hlk Z (zEnd hf3) dX0_heat_17
def f_X5_joined (a0 : Int32) (a1 : Int32) (a2 : Int32) (σ : zg_S) : Option (Int32 × zg_S) := (if a0 = 38 then (if a1 = 0 then some (0, σ) else (if a2 = 0 then some (0, σ) else some (1, σ))) else (if a0 = 42 then some (a1 * a2, σ) else (if a0 = 43 then some (a1 + a2, σ) else (if a0 = 45 then some (a1 - a2, σ) else (if a0 = 60 then (if a2 ≤ a1 then some (0, σ) else some (1, σ)) else (if a0 = 61 then (if a1 = a2 then some (1, σ) else some (0, σ)) else (if a0 = 62 then (if a1 ≤ a2 then some (0, σ) else some (1, σ)) else (if a0 = 124 then (if a1 = 0 then (if a2 = 0 then some (0, σ) else some (1, σ)) else some (1, σ)) else (if a2 = 0 then some (0, σ) else (if a2 = 0 then none else some (a1 / a2, σ)))))))))))
set_option maxHeartbeats 4000000 in
set_option maxRecDepth 100000 in
theorem c_X5_joined (l : Launch) (D : va_G) (V : zz_V) (ad : Nat → Nat) (cA : Nat → ClassId) (a0 : Int32) (a1 : Int32) (a2 : Int32)  (σ : zg_S) (r0 : Int32) (σf : zg_S) (hf : f_X5_joined a0 a1 a2 σ = some (r0, σf)) : zM_I l yX5_joined wsX5_joined 0 0 D V XL ad cA [.int a0, .int a1, .int a2] σ r0 σf := by
  intro sz
  refine Met.ofW (cc := cX5_joined) (maxL := 3) (ret := (some .int)) (by decide) rfl ?_
  intro p e s m args below meth c s₁ B hml hv
  obtain ⟨rfl, hC⟩ := hv
  have hx := B.exec
  have hb := B.bytes
  have hr := B.returns
  have hts := atoms_spec (ws := wsX5_joined) B.pre
  have hown : s.vm.findClass RX5 = some m.cls := findClass_of_methodNamed B.named
  have hlk := B.notSynchronized
  have X : CallFix p m c cX5_joined 3 s _ wsX5_joined RX5 := ⟨hx, hb, hml, hown, hts⟩
  have Z := zz_enter hC
  generalize va_A (zg_W XL ad cA σ) sz = A at Z ⊢
  have hl := lv_entry ([.int a0, .int a1, .int a2]) (n := 3) (Nat.le_of_ble_eq_true rfl)
  rw [lg_entry_eq]
  generalize (lg_sl ([.int a0, .int a1, .int a2]) ++ List.replicate (3 - (lg_sl ([.int a0, .int a1, .int a2])).length) Slot.unset).toArray = ls at hl ⊢
  have hl : lv_has ls 3 [(0, .int a0), (1, .int a1), (2, .int a2)] := hl
  unfold f_X5_joined at hf
  refine lv_iload_n hx hb dX5_joined_0 rfl (lv_at hl 0 rfl) ?_
  by_cases w1 : a0 = 38
  · have hf2 := zYes hf w1
    clear hf
    refine zz_v w1 ?_
    refine lv_lookup (x := 38) (off := 89) (tgt := 90) hx hb dX5_joined_1 (by decide) (by decide) (by decide) ?_
    refine lv_iload_n hx hb dX5_joined_90 rfl (lv_at hl 1 rfl) ?_
    refine lv_if_eq (tgt := 102) hx hb dX5_joined_91 (by decide) (fun b3 => ?_) (fun b3 => ?_)
    · have hf4 := zYes hf2 b3
      clear hf2
      refine lv_iconst (v := 0) hx hb dX5_joined_102 (by decide) ?_
      exact zy_iret X hr hlk Z (zEnd hf4) dX5_joined_103
    · have hf5 := zNot hf2 b3
      clear hf2
      refine lv_iload_n hx hb dX5_joined_94 rfl (lv_at hl 2 rfl) ?_
      refine lv_if_eq (tgt := 102) hx hb dX5_joined_95 (by decide) (fun b6 => ?_) (fun b6 => ?_)
      · have hf7 := zYes hf5 b6
        clear hf5
        refine lv_iconst (v := 0) hx hb dX5_joined_102 (by decide) ?_
        exact zy_iret X hr hlk Z (zEnd hf7) dX5_joined_103
      · have hf8 := zNot hf5 b6
        clear hf5
        refine lv_iconst (v := 1) hx hb dX5_joined_98 (by decide) ?_
        refine lv_goto (tgt := 103) hx hb dX5_joined_99 (by decide) ?_
        exact zy_iret X hr hlk Z (zEnd hf8) dX5_joined_103
  · have hf9 := zNot hf w1
    clear hf
    by_cases w10 : a0 = 42
    · have hf11 := zYes hf9 w10
      clear hf9
      refine zz_v w10 ?_
      refine lv_lookup (x := 42) (off := 144) (tgt := 145) hx hb dX5_joined_1 (by decide) (by decide) (by decide) ?_
      refine lv_iload_n hx hb dX5_joined_145 rfl (lv_at hl 1 rfl) ?_
      refine lv_iload_n hx hb dX5_joined_146 rfl (lv_at hl 2 rfl) ?_
      refine lv_imul hx hb dX5_joined_147 ?_
      exact zy_iret X hr hlk Z (zEnd hf11) dX5_joined_148
    · have hf12 := zNot hf9 w10
      clear hf9
      by_cases w13 : a0 = 43
      · have hf14 := zYes hf12 w13
        clear hf12
        refine zz_v w13 ?_
        refine lv_lookup (x := 43) (off := 136) (tgt := 137) hx hb dX5_joined_1 (by decide) (by decide) (by decide) ?_
        refine lv_iload_n hx hb dX5_joined_137 rfl (lv_at hl 1 rfl) ?_
        refine lv_iload_n hx hb dX5_joined_138 rfl (lv_at hl 2 rfl) ?_
        refine lv_iadd hx hb dX5_joined_139 ?_
        exact zy_iret X hr hlk Z (zEnd hf14) dX5_joined_140
      · have hf15 := zNot hf12 w13
        clear hf12
        by_cases w16 : a0 = 45
        · have hf17 := zYes hf15 w16
          clear hf15
          refine zz_v w16 ?_
          refine lv_lookup (x := 45) (off := 140) (tgt := 141) hx hb dX5_joined_1 (by decide) (by decide) (by decide) ?_
          refine lv_iload_n hx hb dX5_joined_141 rfl (lv_at hl 1 rfl) ?_
          refine lv_iload_n hx hb dX5_joined_142 rfl (lv_at hl 2 rfl) ?_
          refine lv_isub hx hb dX5_joined_143 ?_
          exact zy_iret X hr hlk Z (zEnd hf17) dX5_joined_144
        · have hf18 := zNot hf15 w16
          clear hf15
          by_cases w19 : a0 = 60
          · have hf20 := zYes hf18 w19
            clear hf18
            refine zz_v w19 ?_
            refine lv_lookup (x := 60) (off := 103) (tgt := 104) hx hb dX5_joined_1 (by decide) (by decide) (by decide) ?_
            refine lv_iload_n hx hb dX5_joined_104 rfl (lv_at hl 1 rfl) ?_
            refine lv_iload_n hx hb dX5_joined_105 rfl (lv_at hl 2 rfl) ?_
            refine lv_icmp_ge (tgt := 113) hx hb dX5_joined_106 (by decide) (fun b21 => ?_) (fun b21 => ?_)
            · have hf22 := zYes hf20 b21
              clear hf20
              refine lv_iconst (v := 0) hx hb dX5_joined_113 (by decide) ?_
              exact zy_iret X hr hlk Z (zEnd hf22) dX5_joined_114
            · have hf23 := zNot hf20 b21
              clear hf20
              refine lv_iconst (v := 1) hx hb dX5_joined_109 (by decide) ?_
              refine lv_goto (tgt := 114) hx hb dX5_joined_110 (by decide) ?_
              exact zy_iret X hr hlk Z (zEnd hf23) dX5_joined_114
          · have hf24 := zNot hf18 w19
            clear hf18
            by_cases w25 : a0 = 61
            · have hf26 := zYes hf24 w25
              clear hf24
              refine zz_v w25 ?_
              refine lv_lookup (x := 61) (off := 114) (tgt := 115) hx hb dX5_joined_1 (by decide) (by decide) (by decide) ?_
              refine lv_iload_n hx hb dX5_joined_115 rfl (lv_at hl 1 rfl) ?_
              refine lv_iload_n hx hb dX5_joined_116 rfl (lv_at hl 2 rfl) ?_
              refine lv_icmp_ne (tgt := 124) hx hb dX5_joined_117 (by decide) (fun b27 => ?_) (fun b27 => ?_)
              · have hf28 := zNot hf26 b27
                clear hf26
                refine lv_iconst (v := 0) hx hb dX5_joined_124 (by decide) ?_
                exact zy_iret X hr hlk Z (zEnd hf28) dX5_joined_125
              · have hf29 := zYes hf26 b27
                clear hf26
                refine lv_iconst (v := 1) hx hb dX5_joined_120 (by decide) ?_
                refine lv_goto (tgt := 125) hx hb dX5_joined_121 (by decide) ?_
                exact zy_iret X hr hlk Z (zEnd hf29) dX5_joined_125
            · have hf30 := zNot hf24 w25
              clear hf24
              by_cases w31 : a0 = 62
              · have hf32 := zYes hf30 w31
                clear hf30
                refine zz_v w31 ?_
                refine lv_lookup (x := 62) (off := 125) (tgt := 126) hx hb dX5_joined_1 (by decide) (by decide) (by decide) ?_
                refine lv_iload_n hx hb dX5_joined_126 rfl (lv_at hl 1 rfl) ?_
                refine lv_iload_n hx hb dX5_joined_127 rfl (lv_at hl 2 rfl) ?_
                refine lv_icmp_le (tgt := 135) hx hb dX5_joined_128 (by decide) (fun b33 => ?_) (fun b33 => ?_)
                · have hf34 := zYes hf32 b33
                  clear hf32
                  refine lv_iconst (v := 0) hx hb dX5_joined_135 (by decide) ?_
                  exact zy_iret X hr hlk Z (zEnd hf34) dX5_joined_136
                · have hf35 := zNot hf32 b33
                  clear hf32
                  refine lv_iconst (v := 1) hx hb dX5_joined_131 (by decide) ?_
                  refine lv_goto (tgt := 136) hx hb dX5_joined_132 (by decide) ?_
                  exact zy_iret X hr hlk Z (zEnd hf35) dX5_joined_136
              · have hf36 := zNot hf30 w31
                clear hf30
                by_cases w37 : a0 = 124
                · have hf38 := zYes hf36 w37
                  clear hf36
                  refine zz_v w37 ?_
                  refine lv_lookup (x := 124) (off := 75) (tgt := 76) hx hb dX5_joined_1 (by decide) (by decide) (by decide) ?_
                  refine lv_iload_n hx hb dX5_joined_76 rfl (lv_at hl 1 rfl) ?_
                  refine lv_if_ne (tgt := 84) hx hb dX5_joined_77 (by decide) (fun b39 => ?_) (fun b39 => ?_)
                  · have hf40 := zNot hf38 b39
                    clear hf38
                    refine lv_iconst (v := 1) hx hb dX5_joined_84 (by decide) ?_
                    refine lv_goto (tgt := 89) hx hb dX5_joined_85 (by decide) ?_
                    exact zy_iret X hr hlk Z (zEnd hf40) dX5_joined_89
                  · have hf41 := zYes hf38 b39
                    clear hf38
                    refine lv_iload_n hx hb dX5_joined_80 rfl (lv_at hl 2 rfl) ?_
                    refine lv_if_eq (tgt := 88) hx hb dX5_joined_81 (by decide) (fun b42 => ?_) (fun b42 => ?_)
                    · have hf43 := zYes hf41 b42
                      clear hf41
                      refine lv_iconst (v := 0) hx hb dX5_joined_88 (by decide) ?_
                      exact zy_iret X hr hlk Z (zEnd hf43) dX5_joined_89
                    · have hf44 := zNot hf41 b42
                      clear hf41
                      refine lv_iconst (v := 1) hx hb dX5_joined_84 (by decide) ?_
                      refine lv_goto (tgt := 89) hx hb dX5_joined_85 (by decide) ?_
                      exact zy_iret X hr hlk Z (zEnd hf44) dX5_joined_89
                · have hf45 := zNot hf36 w37
                  clear hf36
                  have n46 := zNe (k := 38) (y := 38) (by decide) w1
                  have n47 := zNe (k := 42) (y := 42) (by decide) w10
                  have n48 := zNe (k := 43) (y := 43) (by decide) w13
                  have n49 := zNe (k := 45) (y := 45) (by decide) w16
                  have n50 := zNe (k := 60) (y := 60) (by decide) w19
                  have n51 := zNe (k := 61) (y := 61) (by decide) w25
                  have n52 := zNe (k := 62) (y := 62) (by decide) w31
                  have n53 := zNe (k := 124) (y := 124) (by decide) w37
                  refine lv_lookup (off := 148) (tgt := 149) hx hb dX5_joined_1 (by decide) (by simp [Op.lookupswitch.offset, n46, n47, n48, n49, n50, n51, n52, n53, Ne.symm n46, Ne.symm n47, Ne.symm n48, Ne.symm n49, Ne.symm n50, Ne.symm n51, Ne.symm n52, Ne.symm n53]) (by decide) ?_
                  refine lv_iload_n hx hb dX5_joined_149 rfl (lv_at hl 2 rfl) ?_
                  refine lv_if_ne (tgt := 157) hx hb dX5_joined_150 (by decide) (fun b54 => ?_) (fun b54 => ?_)
                  · have hf55 := zNot hf45 b54
                    clear hf45
                    refine lv_iload_n hx hb dX5_joined_157 rfl (lv_at hl 1 rfl) ?_
                    refine lv_iload_n hx hb dX5_joined_158 rfl (lv_at hl 2 rfl) ?_
                    obtain ⟨z56, hf57⟩ := zD hf55
                    clear hf55
                    refine lv_idiv hx hb dX5_joined_159 z56 ?_
                    exact zy_iret X hr hlk Z (zEnd hf57) dX5_joined_160
                  · have hf58 := zYes hf45 b54
                    clear hf45
                    refine lv_iconst (v := 0) hx hb dX5_joined_153 (by decide) ?_
                    refine lv_goto (tgt := 160) hx hb dX5_joined_154 (by decide) ?_
                    exact zy_iret X hr hlk Z (zEnd hf58) dX5_joined_160
def B_X5_workOut_169 (q0 : Nat) (a1 : Int32) (a2 : Int32) (a3 : Int32) (rec6_ : Int32 → Int32 → zg_S → Option (Int32 × zg_S)) (x4 : Int32) (x5 : Int32) (σ : zg_S) : Option (Int32 × zg_S) := rec6_ x4 (x5 + 1) σ
def B_X5_workOut_122 (q0 : Nat) (a1 : Int32) (a2 : Int32) (a3 : Int32) (rec6_ : Int32 → Int32 → zg_S → Option (Int32 × zg_S)) (x4 : Int32) (x5 : Int32) (y0 : Int32) (y1 : Int32) (σ : zg_S) : Option (Int32 × zg_S) := (if zin y1 96 = true then zlet (zg_up σ (q0 + 2) (Int32.toNatClampNeg y1) y0) (fun (σ6 : zg_S) => B_X5_workOut_169 q0 a1 a2 a3 rec6_ x4 x5 σ6) else none)
def B_X5_workOut_82 (q0 : Nat) (a1 : Int32) (a2 : Int32) (a3 : Int32) (rec6_ : Int32 → Int32 → zg_S → Option (Int32 × zg_S)) (x4 : Int32) (x5 : Int32) (y0 : Int32) (y1 : Int32) (σ : zg_S) : Option (Int32 × zg_S) := (if zin y1 96 = true then zlet (zg_up σ (q0 + 2) (Int32.toNatClampNeg y1) y0) (fun (σ15 : zg_S) => B_X5_workOut_169 q0 a1 a2 a3 rec6_ x4 x5 σ15) else none)
def B_X5_workOut_6 (q0 : Nat) (a1 : Int32) (a2 : Int32) (a3 : Int32) (rec6_ : Int32 → Int32 → zg_S → Option (Int32 × zg_S)) (x4 : Int32) (x5 : Int32) (σ : zg_S) : Option (Int32 × zg_S) := (if (σ q0 2) ≤ x5 then (if 0 ≤ x4 then (if zin x4 96 = true then some (σ (q0 + 2) (Int32.toNatClampNeg x4), σ) else none) else some (0, σ)) else (if zin x5 96 = true then zlet (σ (q0 + 1) (Int32.toNatClampNeg x5)) (fun (y33 : Int32) => (if y33 ≤ (-1000) then (if y33 = (-1033) then (if 0 ≤ x4 then (if zin x4 96 = true then (if (σ (q0 + 2) (Int32.toNatClampNeg x4)) = 0 then B_X5_workOut_122 q0 a1 a2 a3 rec6_ x4 x5 1 x4 σ else B_X5_workOut_122 q0 a1 a2 a3 rec6_ x4 x5 0 x4 σ) else none) else some (0, σ)) else (if 1 ≤ x4 then (if zin (x4 + (-1)) 96 = true then (if zin ((x4 + (-1)) + 1) 96 = true then zbd (f_X5_joined ((-1000) - y33) (σ (q0 + 2) (Int32.toNatClampNeg (x4 + (-1)))) (σ (q0 + 2) (Int32.toNatClampNeg ((x4 + (-1)) + 1))) σ) (fun (r52 : Int32) (σ53 : zg_S) => zlet (zg_up σ53 (q0 + 2) (Int32.toNatClampNeg (x4 + (-1))) r52) (fun (σ59 : zg_S) => B_X5_workOut_169 q0 a1 a2 a3 rec6_ (x4 + (-1)) x5 σ59)) else none) else none) else some (0, σ))) else (if x4 < 95 then (if y33 < 0 then (if y33 = (-1) then B_X5_workOut_82 q0 a1 a2 a3 rec6_ (x4 + 1) x5 a1 (x4 + 1) σ else (if y33 = (-2) then B_X5_workOut_82 q0 a1 a2 a3 rec6_ (x4 + 1) x5 a2 (x4 + 1) σ else B_X5_workOut_82 q0 a1 a2 a3 rec6_ (x4 + 1) x5 a3 (x4 + 1) σ)) else B_X5_workOut_82 q0 a1 a2 a3 rec6_ (x4 + 1) x5 y33 (x4 + 1) σ) else some (0, σ)))) else none))
def L_X5_workOut_6 (q0 : Nat) (a1 : Int32) (a2 : Int32) (a3 : Int32) : Nat → Int32 → Int32 → zg_S → Option (Int32 × zg_S) := zfix (fun _ _ _ => none) (B_X5_workOut_6 q0 a1 a2 a3)
def f_X5_workOut (q0 : Nat) (a1 : Int32) (a2 : Int32) (a3 : Int32) (σ : zg_S) : Option (Int32 × zg_S) := L_X5_workOut_6 q0 a1 a2 a3 zfu (-1) 0 σ
set_option maxHeartbeats 4000000 in
set_option maxRecDepth 100000 in
theorem c_X5_workOut (l : Launch) (D : va_G) (V : zz_V) (ad : Nat → Nat) (cA : Nat → ClassId) (q0 : Nat) (a1 : Int32) (a2 : Int32) (a3 : Int32) (hq0 : XL.2.1 q0 = 5) (σ : zg_S) (r0 : Int32) (σf : zg_S) (hf : f_X5_workOut q0 a1 a2 a3 σ = some (r0, σf)) : zM_I l yX5_workOut wsX5_workOut 1 22 D V XL ad cA [.ref (ad q0), .int a1, .int a2, .int a3] σ r0 σf := by
  intro sz
  refine Met.ofW (cc := cX5_workOut) (maxL := 7) (ret := (some .int)) (by decide) rfl ?_
  intro p e s m args below meth c s₁ B hml hv
  obtain ⟨rfl, hC⟩ := hv
  have hx := B.exec
  have hb := B.bytes
  have hr := B.returns
  have hts := atoms_spec (ws := wsX5_workOut) B.pre
  have hown : s.vm.findClass RX5 = some m.cls := findClass_of_methodNamed B.named
  have hlk := B.notSynchronized
  have X : CallFix p m c cX5_workOut 7 s _ wsX5_workOut RX5 := ⟨hx, hb, hml, hown, hts⟩
  have Z := zz_enter hC
  generalize va_A (zg_W XL ad cA σ) sz = A at Z ⊢
  have hl := lv_entry ([.ref (ad q0), .int a1, .int a2, .int a3]) (n := 7) (Nat.le_of_ble_eq_true rfl)
  rw [lg_entry_eq]
  generalize (lg_sl ([.ref (ad q0), .int a1, .int a2, .int a3]) ++ List.replicate (7 - (lg_sl ([.ref (ad q0), .int a1, .int a2, .int a3])).length) Slot.unset).toArray = ls at hl ⊢
  have hl : lv_has ls 7 [(0, .ref (ad q0)), (1, .int a1), (2, .int a2), (3, .int a3)] := hl
  unfold f_X5_workOut at hf
  have b6_ : ∀ (k6_ : Nat) (x4 : Int32) (x5 : Int32) (σ : zg_S), L_X5_workOut_6 q0 a1 a2 a3 k6_ x4 x5 σ = some (r0, σf) → ∀ (H : Heap) (locs : List Loc) (ls : Array Slot), zz_S D V A s (zg_W XL ad cA σ) (zg_T XL cA) H locs → lv_has ls 7 [(0, .ref (ad q0)), (1, .int a1), (2, .int a2), (3, .int a3), (4, .int x4), (5, .int x5)] → W p l e (headSpec wsX5_workOut { frames := 1, cells := 0, slots := 0, locals := 22 }).room s m (List.toArray [.ref (ad q0), .int a1, .int a2, .int a3]) below meth c H locs 0 0 (MQ below (va_Qi (fun r (_ : Unit) => r = r0) (fun _ t => zz_B D A (zg_W XL ad cA σf) (zg_T XL cA) t) A) (List.toArray [.ref (ad q0), .int a1, .int a2, .int a3]) s 0 0 A) (F0 m 6 ls []) := by
    intro k6_
    induction k6_ with
    | zero =>
        intro x4 x5 σ hf6_ H6_ locs6_ ls6_ Z6_ hl6_
        exact zNone hf6_
    | succ k6_ ih6_ =>
        intro x4 x5 σ hf6_ H6_ locs6_ ls6_ Z6_ hl6_
        replace hf6_ : B_X5_workOut_6 q0 a1 a2 a3 (L_X5_workOut_6 q0 a1 a2 a3 k6_) x4 x5 σ = some (r0, σf) := hf6_
        unfold B_X5_workOut_6 at hf6_
        have b169_ : ∀ (x4 : Int32) (x5 : Int32) (σ : zg_S), B_X5_workOut_169 q0 a1 a2 a3 (L_X5_workOut_6 q0 a1 a2 a3 k6_) x4 x5 σ = some (r0, σf) → ∀ (H : Heap) (locs : List Loc) (ls : Array Slot), zz_S D V A s (zg_W XL ad cA σ) (zg_T XL cA) H locs → lv_has ls 7 [(0, .ref (ad q0)), (1, .int a1), (2, .int a2), (3, .int a3), (4, .int x4), (5, .int x5)] → W p l e (headSpec wsX5_workOut { frames := 1, cells := 0, slots := 0, locals := 22 }).room s m (List.toArray [.ref (ad q0), .int a1, .int a2, .int a3]) below meth c H locs 0 0 (MQ below (va_Qi (fun r (_ : Unit) => r = r0) (fun _ t => zz_B D A (zg_W XL ad cA σf) (zg_T XL cA) t) A) (List.toArray [.ref (ad q0), .int a1, .int a2, .int a3]) s 0 0 A) (F0 m 169 ls []) := by
          intro x4 x5 σ hf169_ H169_ locs169_ ls169_ Z169_ hl169_
          unfold B_X5_workOut_169 at hf169_
          refine lv_iinc (v := (x5 + 1)) (lv' := [(5, .int (x5 + 1)), (0, .ref (ad q0)), (1, .int a1), (2, .int a2), (3, .int a3), (4, .int x4)]) hx hb dX5_workOut_169 hl169_ (k := 5) rfl rfl (by decide) rfl (fun ls2 hl1 => ?_)
          clear hl169_
          refine lv_goto (tgt := 6) hx hb dX5_workOut_172 (by decide) ?_
          exact ih6_ x4 (x5 + 1) σ hf169_ _ _ _ Z169_ (lv_sub hl1 [1, 2, 3, 4, 5, 0] rfl)
        have b122_ : ∀ (x4 : Int32) (x5 : Int32) (y0 : Int32) (y1 : Int32) (σ : zg_S), B_X5_workOut_122 q0 a1 a2 a3 (L_X5_workOut_6 q0 a1 a2 a3 k6_) x4 x5 y0 y1 σ = some (r0, σf) → ∀ (H : Heap) (locs : List Loc) (ls : Array Slot), zz_S D V A s (zg_W XL ad cA σ) (zg_T XL cA) H locs → lv_has ls 7 [(0, .ref (ad q0)), (1, .int a1), (2, .int a2), (3, .int a3), (4, .int x4), (5, .int x5)] → W p l e (headSpec wsX5_workOut { frames := 1, cells := 0, slots := 0, locals := 22 }).room s m (List.toArray [.ref (ad q0), .int a1, .int a2, .int a3]) below meth c H locs 0 0 (MQ below (va_Qi (fun r (_ : Unit) => r = r0) (fun _ t => zz_B D A (zg_W XL ad cA σf) (zg_T XL cA) t) A) (List.toArray [.ref (ad q0), .int a1, .int a2, .int a3]) s 0 0 A) (F0 m 122 ls [.int y0, .int y1, .ref (ad (q0 + 2))]) := by
          intro x4 x5 y0 y1 σ hf122_ H122_ locs122_ ls122_ Z122_ hl122_
          unfold B_X5_workOut_122 at hf122_
          obtain ⟨⟨i3, j4⟩, hf5⟩ := zG hf122_
          clear hf122_
          obtain ⟨σ6, es7, hf8⟩ := zLet hf5
          clear hf5
          refine zy_ist (σ' := σ6) X Z122_ xL_ok (xT2 hq0) (xT2l hq0) i3 es7 dX5_workOut_122 (fun H9 lo10 Z11 => ?_)
          clear Z122_ es7
          refine lv_goto (tgt := 169) hx hb dX5_workOut_123 (by decide) ?_
          exact b169_ x4 x5 σ6 hf8 _ _ _ Z11 (lv_sub hl122_ [0, 1, 2, 3, 4, 5] rfl)
        have b82_ : ∀ (x4 : Int32) (x5 : Int32) (y0 : Int32) (y1 : Int32) (σ : zg_S), B_X5_workOut_82 q0 a1 a2 a3 (L_X5_workOut_6 q0 a1 a2 a3 k6_) x4 x5 y0 y1 σ = some (r0, σf) → ∀ (H : Heap) (locs : List Loc) (ls : Array Slot), zz_S D V A s (zg_W XL ad cA σ) (zg_T XL cA) H locs → lv_has ls 7 [(0, .ref (ad q0)), (1, .int a1), (2, .int a2), (3, .int a3), (4, .int x4), (5, .int x5)] → W p l e (headSpec wsX5_workOut { frames := 1, cells := 0, slots := 0, locals := 22 }).room s m (List.toArray [.ref (ad q0), .int a1, .int a2, .int a3]) below meth c H locs 0 0 (MQ below (va_Qi (fun r (_ : Unit) => r = r0) (fun _ t => zz_B D A (zg_W XL ad cA σf) (zg_T XL cA) t) A) (List.toArray [.ref (ad q0), .int a1, .int a2, .int a3]) s 0 0 A) (F0 m 82 ls [.int y0, .int y1, .ref (ad (q0 + 2))]) := by
          intro x4 x5 y0 y1 σ hf82_ H82_ locs82_ ls82_ Z82_ hl82_
          unfold B_X5_workOut_82 at hf82_
          obtain ⟨⟨i12, j13⟩, hf14⟩ := zG hf82_
          clear hf82_
          obtain ⟨σ15, es16, hf17⟩ := zLet hf14
          clear hf14
          refine zy_ist (σ' := σ15) X Z82_ xL_ok (xT2 hq0) (xT2l hq0) i12 es16 dX5_workOut_82 (fun H18 lo19 Z20 => ?_)
          clear Z82_ es16
          refine lv_goto (tgt := 169) hx hb dX5_workOut_83 (by decide) ?_
          exact b169_ x4 x5 σ15 hf17 _ _ _ Z20 (lv_sub hl82_ [0, 1, 2, 3, 4, 5] rfl)
        refine lv_iload hx hb dX5_workOut_6 (lv_at hl6_ 5 rfl) ?_
        refine lv_aload_n hx hb dX5_workOut_8 rfl (lv_at hl6_ 0 rfl) ?_
        refine zy_get (v := .int (σ q0 2)) X Z6_ xL_ok hq0 rfl rfl (fun w h => List.mem_cons_of_mem _ (List.mem_append_right _ h)) 2 rfl (zz_m 1 rfl) rfl dX5_workOut_9 ?_
        refine lv_icmp_ge (tgt := 175) hx hb dX5_workOut_12 (by decide) (fun b21 => ?_) (fun b21 => ?_)
        · have hf22 := zYes hf6_ b21
          clear hf6_
          refine lv_iload hx hb dX5_workOut_175 (lv_at hl6_ 4 rfl) ?_
          refine lv_if_ge (tgt := 184) hx hb dX5_workOut_177 (by decide) (fun b23 => ?_) (fun b23 => ?_)
          · have hf24 := zYes hf22 b23
            clear hf22
            refine lv_aload_n hx hb dX5_workOut_184 rfl (lv_at hl6_ 0 rfl) ?_
            refine zy_get (v := .ref (ad (q0 + 2))) X Z6_ xL_ok hq0 rfl rfl (fun w h => List.mem_cons_of_mem _ (List.mem_append_right _ h)) 4 rfl (zz_m 3 rfl) rfl dX5_workOut_185 ?_
            refine lv_iload hx hb dX5_workOut_188 (lv_at hl6_ 4 rfl) ?_
            obtain ⟨⟨i25, j26⟩, hf27⟩ := zG hf24
            clear hf24
            refine zy_ild X Z6_ xL_ok (xT2 hq0) (xT2l hq0) i25 dX5_workOut_190 ?_
            exact zy_iret X hr hlk Z6_ (zEnd hf27) dX5_workOut_191
          · have hf28 := zNot hf22 b23
            clear hf22
            refine lv_iconst (v := 0) hx hb dX5_workOut_180 (by decide) ?_
            refine lv_goto (tgt := 191) hx hb dX5_workOut_181 (by decide) ?_
            exact zy_iret X hr hlk Z6_ (zEnd hf28) dX5_workOut_191
        · have hf29 := zNot hf6_ b21
          clear hf6_
          refine lv_aload_n hx hb dX5_workOut_15 rfl (lv_at hl6_ 0 rfl) ?_
          refine zy_get (v := .ref (ad (q0 + 1))) X Z6_ xL_ok hq0 rfl rfl (fun w h => List.mem_cons_of_mem _ (List.mem_append_right _ h)) 3 rfl (zz_m 2 rfl) rfl dX5_workOut_16 ?_
          refine lv_iload hx hb dX5_workOut_19 (lv_at hl6_ 5 rfl) ?_
          obtain ⟨⟨i30, j31⟩, hf32⟩ := zG hf29
          clear hf29
          refine zy_ild X Z6_ xL_ok (xT1 hq0) (xT1l hq0) i30 dX5_workOut_21 ?_
          obtain ⟨y33, ey34, hf35⟩ := zLet hf32
          clear hf32
          refine zz_v (v := y33) ey34.symm ?_
          clear ey34
          refine lv_istore (lv' := [(6, .int y33), (0, .ref (ad q0)), (1, .int a1), (2, .int a2), (3, .int a3), (4, .int x4), (5, .int x5)]) hx hb dX5_workOut_22 hl6_ (by decide) rfl (fun ls37 hl36 => ?_)
          clear hl6_
          refine lv_iload hx hb dX5_workOut_24 (lv_at hl36 0 rfl) ?_
          refine lv_sipush (v := (-1000)) hx hb dX5_workOut_26 (by decide) ?_
          refine lv_icmp_le (tgt := 86) hx hb dX5_workOut_29 (by decide) (fun b38 => ?_) (fun b38 => ?_)
          · have hf39 := zYes hf35 b38
            clear hf35
            refine lv_iload hx hb dX5_workOut_86 (lv_at hl36 0 rfl) ?_
            refine lv_sipush (v := (-1033)) hx hb dX5_workOut_88 (by decide) ?_
            refine lv_icmp_ne (tgt := 126) hx hb dX5_workOut_91 (by decide) (fun b40 => ?_) (fun b40 => ?_)
            · have hf41 := zNot hf39 b40
              clear hf39
              refine lv_iload hx hb dX5_workOut_126 (lv_at hl36 5 rfl) ?_
              refine lv_iconst (v := 1) hx hb dX5_workOut_128 (by decide) ?_
              refine lv_icmp_ge (tgt := 134) hx hb dX5_workOut_129 (by decide) (fun b42 => ?_) (fun b42 => ?_)
              · have hf43 := zYes hf41 b42
                clear hf41
                refine lv_iinc (v := (x4 + (-1))) (lv' := [(4, .int (x4 + (-1))), (6, .int y33), (0, .ref (ad q0)), (1, .int a1), (2, .int a2), (3, .int a3), (5, .int x5)]) hx hb dX5_workOut_134 hl36 (k := 5) rfl rfl (by decide) rfl (fun ls45 hl44 => ?_)
                clear hl36
                refine lv_aload_n hx hb dX5_workOut_137 rfl (lv_at hl44 2 rfl) ?_
                refine zy_get (v := .ref (ad (q0 + 2))) X Z6_ xL_ok hq0 rfl rfl (fun w h => List.mem_cons_of_mem _ (List.mem_append_right _ h)) 4 rfl (zz_m 3 rfl) rfl dX5_workOut_138 ?_
                refine lv_iload hx hb dX5_workOut_141 (lv_at hl44 0 rfl) ?_
                refine lv_sipush (v := (-1000)) hx hb dX5_workOut_143 (by decide) ?_
                refine lv_iload hx hb dX5_workOut_146 (lv_at hl44 1 rfl) ?_
                refine lv_isub hx hb dX5_workOut_148 ?_
                refine lv_aload_n hx hb dX5_workOut_149 rfl (lv_at hl44 2 rfl) ?_
                refine zy_get (v := .ref (ad (q0 + 2))) X Z6_ xL_ok hq0 rfl rfl (fun w h => List.mem_cons_of_mem _ (List.mem_append_right _ h)) 4 rfl (zz_m 3 rfl) rfl dX5_workOut_150 ?_
                refine lv_iload hx hb dX5_workOut_153 (lv_at hl44 0 rfl) ?_
                obtain ⟨⟨i46, j47⟩, hf48⟩ := zG hf43
                clear hf43
                refine zy_ild X Z6_ xL_ok (xT2 hq0) (xT2l hq0) i46 dX5_workOut_155 ?_
                refine lv_aload_n hx hb dX5_workOut_156 rfl (lv_at hl44 2 rfl) ?_
                refine zy_get (v := .ref (ad (q0 + 2))) X Z6_ xL_ok hq0 rfl rfl (fun w h => List.mem_cons_of_mem _ (List.mem_append_right _ h)) 4 rfl (zz_m 3 rfl) rfl dX5_workOut_157 ?_
                refine lv_iload hx hb dX5_workOut_160 (lv_at hl44 0 rfl) ?_
                refine lv_iconst (v := 1) hx hb dX5_workOut_162 (by decide) ?_
                refine lv_iadd hx hb dX5_workOut_163 ?_
                obtain ⟨⟨i49, j50⟩, hf51⟩ := zG hf48
                clear hf48
                refine zy_ild X Z6_ xL_ok (xT2 hq0) (xT2l hq0) i49 dX5_workOut_164 ?_
                obtain ⟨r52, σ53, hc54, hf55⟩ := zBd hf51
                clear hf51
                refine zy_ci (r0 := r52) (WS1 := zg_W XL ad cA σ53) (TYS1 := zg_T XL cA) Z6_ (va_runS (As := [.int ((-1000) - y33), .int (σ (q0 + 2) (Int32.toNatClampNeg (x4 + (-1)))), .int (σ (q0 + 2) (Int32.toNatClampNeg ((x4 + (-1)) + 1)))]) (rest := [.int (x4 + (-1)), .ref (ad (q0 + 2))]) X (c_X5_joined l D V ad cA ((-1000) - y33) (σ (q0 + 2) (Int32.toNatClampNeg (x4 + (-1)))) (σ (q0 + 2) (Int32.toNatClampNeg ((x4 + (-1)) + 1))) σ r52 σ53 hc54 H6_.size) (va_cwS 3 hts gX5_workOut_X5_joined rfl rfl rfl zh_X5_joined ⟨Nat.le_of_ble_eq_true rfl, Nat.le_of_ble_eq_true rfl⟩) (zz_pS Z6_) rfl rfl hl44.1 rfl (lv_room (Nat.le_of_ble_eq_true rfl)) dX5_workOut_165 ⟨Nat.le_of_ble_eq_true rfl, Nat.le_of_ble_eq_true rfl⟩) (fun H56 lo57 Z58 => ?_)
                clear Z6_ hc54
                obtain ⟨σ59, es60, hf61⟩ := zLet hf55
                clear hf55
                refine zy_ist (σ' := σ59) X Z58 xL_ok (xT2 hq0) (xT2l hq0) i46 es60 dX5_workOut_168 (fun H62 lo63 Z64 => ?_)
                clear Z58 es60
                exact b169_ (x4 + (-1)) x5 σ59 hf61 _ _ _ Z64 (lv_sub hl44 [2, 3, 4, 5, 0, 6] rfl)
              · have hf65 := zNot hf41 b42
                clear hf41
                refine lv_iconst (v := 0) hx hb dX5_workOut_132 (by decide) ?_
                exact zy_iret X hr hlk Z6_ (zEnd hf65) dX5_workOut_133
            · have hf66 := zYes hf39 b40
              clear hf39
              refine lv_iload hx hb dX5_workOut_94 (lv_at hl36 5 rfl) ?_
              refine lv_if_ge (tgt := 101) hx hb dX5_workOut_96 (by decide) (fun b67 => ?_) (fun b67 => ?_)
              · have hf68 := zYes hf66 b67
                clear hf66
                refine lv_aload_n hx hb dX5_workOut_101 rfl (lv_at hl36 1 rfl) ?_
                refine zy_get (v := .ref (ad (q0 + 2))) X Z6_ xL_ok hq0 rfl rfl (fun w h => List.mem_cons_of_mem _ (List.mem_append_right _ h)) 4 rfl (zz_m 3 rfl) rfl dX5_workOut_102 ?_
                refine lv_iload hx hb dX5_workOut_105 (lv_at hl36 5 rfl) ?_
                refine lv_aload_n hx hb dX5_workOut_107 rfl (lv_at hl36 1 rfl) ?_
                refine zy_get (v := .ref (ad (q0 + 2))) X Z6_ xL_ok hq0 rfl rfl (fun w h => List.mem_cons_of_mem _ (List.mem_append_right _ h)) 4 rfl (zz_m 3 rfl) rfl dX5_workOut_108 ?_
                refine lv_iload hx hb dX5_workOut_111 (lv_at hl36 5 rfl) ?_
                obtain ⟨⟨i69, j70⟩, hf71⟩ := zG hf68
                clear hf68
                refine zy_ild X Z6_ xL_ok (xT2 hq0) (xT2l hq0) i69 dX5_workOut_113 ?_
                refine lv_if_ne (tgt := 121) hx hb dX5_workOut_114 (by decide) (fun b72 => ?_) (fun b72 => ?_)
                · have hf73 := zNot hf71 b72
                  clear hf71
                  refine lv_iconst (v := 0) hx hb dX5_workOut_121 (by decide) ?_
                  exact b122_ x4 x5 0 x4 σ hf73 _ _ _ Z6_ (lv_sub hl36 [1, 2, 3, 4, 5, 6] rfl)
                · have hf74 := zYes hf71 b72
                  clear hf71
                  refine lv_iconst (v := 1) hx hb dX5_workOut_117 (by decide) ?_
                  refine lv_goto (tgt := 122) hx hb dX5_workOut_118 (by decide) ?_
                  exact b122_ x4 x5 1 x4 σ hf74 _ _ _ Z6_ (lv_sub hl36 [1, 2, 3, 4, 5, 6] rfl)
              · have hf75 := zNot hf66 b67
                clear hf66
                refine lv_iconst (v := 0) hx hb dX5_workOut_99 (by decide) ?_
                exact zy_iret X hr hlk Z6_ (zEnd hf75) dX5_workOut_100
          · have hf76 := zNot hf35 b38
            clear hf35
            refine lv_iload hx hb dX5_workOut_32 (lv_at hl36 5 rfl) ?_
            refine lv_bipush (v := 95) hx hb dX5_workOut_34 (by decide) ?_
            refine lv_icmp_lt (tgt := 41) hx hb dX5_workOut_36 (by decide) (fun b77 => ?_) (fun b77 => ?_)
            · have hf78 := zYes hf76 b77
              clear hf76
              refine lv_iinc (v := (x4 + 1)) (lv' := [(4, .int (x4 + 1)), (6, .int y33), (0, .ref (ad q0)), (1, .int a1), (2, .int a2), (3, .int a3), (5, .int x5)]) hx hb dX5_workOut_41 hl36 (k := 5) rfl rfl (by decide) rfl (fun ls80 hl79 => ?_)
              clear hl36
              refine lv_aload_n hx hb dX5_workOut_44 rfl (lv_at hl79 2 rfl) ?_
              refine zy_get (v := .ref (ad (q0 + 2))) X Z6_ xL_ok hq0 rfl rfl (fun w h => List.mem_cons_of_mem _ (List.mem_append_right _ h)) 4 rfl (zz_m 3 rfl) rfl dX5_workOut_45 ?_
              refine lv_iload hx hb dX5_workOut_48 (lv_at hl79 0 rfl) ?_
              refine lv_iload hx hb dX5_workOut_50 (lv_at hl79 1 rfl) ?_
              refine lv_if_lt (tgt := 60) hx hb dX5_workOut_52 (by decide) (fun b81 => ?_) (fun b81 => ?_)
              · have hf82 := zYes hf78 b81
                clear hf78
                refine lv_iload hx hb dX5_workOut_60 (lv_at hl79 1 rfl) ?_
                refine lv_iconst (v := (-1)) hx hb dX5_workOut_62 (by decide) ?_
                refine lv_icmp_ne (tgt := 70) hx hb dX5_workOut_63 (by decide) (fun b83 => ?_) (fun b83 => ?_)
                · have hf84 := zNot hf82 b83
                  clear hf82
                  refine lv_iload hx hb dX5_workOut_70 (lv_at hl79 1 rfl) ?_
                  refine lv_bipush (v := (-2)) hx hb dX5_workOut_72 (by decide) ?_
                  refine lv_icmp_ne (tgt := 81) hx hb dX5_workOut_74 (by decide) (fun b85 => ?_) (fun b85 => ?_)
                  · have hf86 := zNot hf84 b85
                    clear hf84
                    refine lv_iload_n hx hb dX5_workOut_81 rfl (lv_at hl79 5 rfl) ?_
                    exact b82_ (x4 + 1) x5 a3 (x4 + 1) σ hf86 _ _ _ Z6_ (lv_sub hl79 [2, 3, 4, 5, 0, 6] rfl)
                  · have hf87 := zYes hf84 b85
                    clear hf84
                    refine lv_iload_n hx hb dX5_workOut_77 rfl (lv_at hl79 4 rfl) ?_
                    refine lv_goto (tgt := 82) hx hb dX5_workOut_78 (by decide) ?_
                    exact b82_ (x4 + 1) x5 a2 (x4 + 1) σ hf87 _ _ _ Z6_ (lv_sub hl79 [2, 3, 4, 5, 0, 6] rfl)
                · have hf88 := zYes hf82 b83
                  clear hf82
                  refine lv_iload_n hx hb dX5_workOut_66 rfl (lv_at hl79 3 rfl) ?_
                  refine lv_goto (tgt := 82) hx hb dX5_workOut_67 (by decide) ?_
                  exact b82_ (x4 + 1) x5 a1 (x4 + 1) σ hf88 _ _ _ Z6_ (lv_sub hl79 [2, 3, 4, 5, 0, 6] rfl)
              · have hf89 := zNot hf78 b81
                clear hf78
                refine lv_iload hx hb dX5_workOut_55 (lv_at hl79 1 rfl) ?_
                refine lv_goto (tgt := 82) hx hb dX5_workOut_57 (by decide) ?_
                exact b82_ (x4 + 1) x5 y33 (x4 + 1) σ hf89 _ _ _ Z6_ (lv_sub hl79 [2, 3, 4, 5, 0, 6] rfl)
            · have hf90 := zNot hf76 b77
              clear hf76
              refine lv_iconst (v := 0) hx hb dX5_workOut_39 (by decide) ?_
              exact zy_iret X hr hlk Z6_ (zEnd hf90) dX5_workOut_40
  refine lv_iconst (v := (-1)) hx hb dX5_workOut_0 (by decide) ?_
  refine lv_istore (lv' := [(4, .int (-1)), (0, .ref (ad q0)), (1, .int a1), (2, .int a2), (3, .int a3)]) hx hb dX5_workOut_1 hl (by decide) rfl (fun ls92 hl91 => ?_)
  clear hl
  refine lv_iconst (v := 0) hx hb dX5_workOut_3 (by decide) ?_
  refine lv_istore (lv' := [(5, .int 0), (4, .int (-1)), (0, .ref (ad q0)), (1, .int a1), (2, .int a2), (3, .int a3)]) hx hb dX5_workOut_4 hl91 (by decide) rfl (fun ls94 hl93 => ?_)
  clear hl91
  exact b6_ zfu (-1) 0 σ hf _ _ _ Z (lv_sub hl93 [2, 3, 4, 5, 1, 0] rfl)
def f_X0_plainLoss (q0 : Nat) (q1 : Nat) (σ : zg_S) : Option (Int32 × zg_S) := zbd (f_X6_within (σ (q0 + 2) 0) 0 13 σ) (fun (r3 : Int32) (σ4 : zg_S) => (if r3 = 0 then zbd (f_X0_heat q0 σ4) (fun (r37 : Int32) (σ38 : zg_S) => some (r37 / 5, σ38)) else (if zin (σ (q0 + 2) 0) 14 = true then zbd (f_X0_heat q0 σ4) (fun (r15 : Int32) (σ16 : zg_S) => zbd (f_X5_workOut (11 + 3 * (Int32.toNatClampNeg (σ (q0 + 2) 0))) r15 (σ16 q1 2) (σ16 q1 3) σ16) (fun (r22 : Int32) (σ23 : zg_S) => zbd (f_X6_held r22 0 (σ23 q1 2) σ23) (fun (r29 : Int32) (σ30 : zg_S) => some (r29, σ30)))) else none)))
set_option maxHeartbeats 4000000 in
set_option maxRecDepth 100000 in
theorem c_X0_plainLoss (l : Launch) (D : va_G) (V : zz_V) (ad : Nat → Nat) (cA : Nat → ClassId) (q0 : Nat) (q1 : Nat) (hq0 : XL.2.1 q0 = 0) (hq1 : XL.2.1 q1 = 4) (σ : zg_S) (r0 : Int32) (σf : zg_S) (hf : f_X0_plainLoss q0 q1 σ = some (r0, σf)) : zM_I l yX0_plainLoss wsX0_plainLoss 2 48 D V XL ad cA [.ref (ad q0), .ref (ad q1)] σ r0 σf := by
  intro sz
  refine Met.ofW (cc := cX0_plainLoss) (maxL := 3) (ret := (some .int)) (by decide) rfl ?_
  intro p e s m args below meth c s₁ B hml hv
  obtain ⟨rfl, hC⟩ := hv
  have hx := B.exec
  have hb := B.bytes
  have hr := B.returns
  have hts := atoms_spec (ws := wsX0_plainLoss) B.pre
  have hown : s.vm.findClass RX0 = some m.cls := findClass_of_methodNamed B.named
  have hlk := B.notSynchronized
  have X : CallFix p m c cX0_plainLoss 3 s _ wsX0_plainLoss RX0 := ⟨hx, hb, hml, hown, hts⟩
  have Z := zz_enter hC
  generalize va_A (zg_W XL ad cA σ) sz = A at Z ⊢
  have hl := lv_entry ([.ref (ad q0), .ref (ad q1)]) (n := 3) (Nat.le_of_ble_eq_true rfl)
  rw [lg_entry_eq]
  generalize (lg_sl ([.ref (ad q0), .ref (ad q1)]) ++ List.replicate (3 - (lg_sl ([.ref (ad q0), .ref (ad q1)])).length) Slot.unset).toArray = ls at hl ⊢
  have hl : lv_has ls 3 [(0, .ref (ad q0)), (1, .ref (ad q1))] := hl
  unfold f_X0_plainLoss at hf
  refine lv_aload_n hx hb dX0_plainLoss_0 rfl (lv_at hl 0 rfl) ?_
  refine zy_get (v := .ref (ad (q0 + 2))) X Z xL_ok hq0 rfl rfl (fun w h => List.mem_cons_of_mem _ (List.mem_append_left _ (List.mem_append_left _ (List.mem_append_right _ h)))) 2 rfl (zz_m 1 rfl) rfl dX0_plainLoss_1 ?_
  refine lv_iconst (v := 0) hx hb dX0_plainLoss_4 (by decide) ?_
  refine zy_ild X Z xL_ok (xB2 hq0) (xB2l hq0) (zz_in 0 3 rfl) dX0_plainLoss_5 ?_
  refine zz_v (v := σ (q0 + 2) 0) rfl ?_
  refine lv_istore_n (lv' := [(2, .int (σ (q0 + 2) 0)), (0, .ref (ad q0)), (1, .ref (ad q1))]) hx hb dX0_plainLoss_6 rfl hl (by decide) rfl (fun ls2 hl1 => ?_)
  clear hl
  refine lv_iload_n hx hb dX0_plainLoss_7 rfl (lv_at hl1 0 rfl) ?_
  refine lv_iconst (v := 0) hx hb dX0_plainLoss_8 (by decide) ?_
  refine lv_bipush (v := 13) hx hb dX0_plainLoss_9 (by decide) ?_
  obtain ⟨r3, σ4, hc5, hf6⟩ := zBd hf
  clear hf
  refine zy_ci (r0 := r3) (WS1 := zg_W XL ad cA σ4) (TYS1 := zg_T XL cA) Z (va_runSN (As := [.int (σ (q0 + 2) 0), .int 0, .int 13]) (rest := []) X (c_X6_within l D V ad cA (σ (q0 + 2) 0) 0 13 σ r3 σ4 hc5 s.heap.size) ⟨va_cnB 3 hts gX0_plainLoss_X6_within_n83 rfl rfl rfl (zz_nw (q := (RX0, 83, yX6_within, RX6)) Z.2.2.2.2.2 5 rfl) (hts _ (zz_m 6 rfl)) zh_X6_within ⟨Nat.le_of_ble_eq_true rfl, Nat.le_of_ble_eq_true rfl⟩, hts _ (zz_m 5 rfl), trivial⟩ (zz_pS Z) rfl rfl hl1.1 rfl (lv_room (Nat.le_of_ble_eq_true rfl)) dX0_plainLoss_11 ⟨Nat.le_of_ble_eq_true rfl, Nat.le_of_ble_eq_true rfl⟩) (fun H7 lo8 Z9 => ?_)
  clear Z hc5
  refine lv_if_ne (tgt := 24) hx hb dX0_plainLoss_14 (by decide) (fun b10 => ?_) (fun b10 => ?_)
  · have hf11 := zNot hf6 b10
    clear hf6
    refine lv_aload_n hx hb dX0_plainLoss_24 rfl (lv_at hl1 1 rfl) ?_
    refine zy_get (v := .ref (ad 1)) X Z9 xL_ok hq0 rfl rfl (fun w h => List.mem_cons_of_mem _ (List.mem_append_left _ (List.mem_append_left _ (List.mem_append_right _ h)))) 0 rfl (zz_m 2 rfl) rfl dX0_plainLoss_25 ?_
    refine lv_iload_n hx hb dX0_plainLoss_28 rfl (lv_at hl1 0 rfl) ?_
    obtain ⟨⟨i12, j13⟩, hf14⟩ := zG hf11
    clear hf11
    refine zy_ald (v := (11 + 3 * (Int32.toNatClampNeg (σ (q0 + 2) 0)))) (C := RX5) X Z9 xL_ok xk_1 rfl rfl xl_1 rfl i12 rfl dX0_plainLoss_29 ?_
    refine lv_aload_n hx hb dX0_plainLoss_30 rfl (lv_at hl1 1 rfl) ?_
    obtain ⟨r15, σ16, hc17, hf18⟩ := zBd hf14
    clear hf14
    refine zy_ci (r0 := r15) (WS1 := zg_W XL ad cA σ16) (TYS1 := zg_T XL cA) Z9 (va_runV (As := []) (rest := [.ref (ad (11 + 3 * (Int32.toNatClampNeg (σ (q0 + 2) 0))))]) X (c_X0_heat l D V ad cA q0 hq0 σ4 r15 σ16 hc17 H7.size) (cwV 0 hts gX0_plainLoss_X0_heat rfl rfl rfl ⟨rfl, zh_X0_heat⟩ ⟨Nat.le_of_ble_eq_true rfl, Nat.le_of_ble_eq_true rfl⟩) (zy_pV (ci := 0) Z9 xL_ok hq0 rfl rfl) rfl rfl hl1.1 rfl (lv_room (Nat.le_of_ble_eq_true rfl)) dX0_plainLoss_31 ⟨Nat.le_of_ble_eq_true rfl, Nat.le_of_ble_eq_true rfl⟩) (fun H19 lo20 Z21 => ?_)
    clear Z9 hc17
    refine lv_aload_n hx hb dX0_plainLoss_34 rfl (lv_at hl1 2 rfl) ?_
    refine zy_get (v := .int (σ16 q1 2)) X Z21 xL_ok hq1 rfl rfl (fun w h => List.mem_cons_of_mem _ (List.mem_append_left _ (List.mem_append_right _ h))) 2 rfl (zz_m 3 rfl) rfl dX0_plainLoss_35 ?_
    refine lv_aload_n hx hb dX0_plainLoss_38 rfl (lv_at hl1 2 rfl) ?_
    refine zy_get (v := .int (σ16 q1 3)) X Z21 xL_ok hq1 rfl rfl (fun w h => List.mem_cons_of_mem _ (List.mem_append_left _ (List.mem_append_right _ h))) 3 rfl (zz_m 4 rfl) rfl dX0_plainLoss_39 ?_
    obtain ⟨r22, σ23, hc24, hf25⟩ := zBd hf18
    clear hf18
    refine zy_ci (r0 := r22) (WS1 := zg_W XL ad cA σ23) (TYS1 := zg_T XL cA) Z21 (va_runV (As := [.int r15, .int (σ16 q1 2), .int (σ16 q1 3)]) (rest := []) X (c_X5_workOut l D V ad cA (11 + 3 * (Int32.toNatClampNeg (σ (q0 + 2) 0))) r15 (σ16 q1 2) (σ16 q1 3) (xT j13) σ16 r22 σ23 hc24 H19.size) (cwV 3 hts gX0_plainLoss_X5_workOut rfl rfl rfl ⟨rfl, zh_X5_workOut⟩ ⟨Nat.le_of_ble_eq_true rfl, Nat.le_of_ble_eq_true rfl⟩) (zy_pV (ci := 5) Z21 xL_ok (xT j13) rfl rfl) rfl rfl hl1.1 rfl (lv_room (Nat.le_of_ble_eq_true rfl)) dX0_plainLoss_42 ⟨Nat.le_of_ble_eq_true rfl, Nat.le_of_ble_eq_true rfl⟩) (fun H26 lo27 Z28 => ?_)
    clear Z21 hc24
    refine lv_iconst (v := 0) hx hb dX0_plainLoss_45 (by decide) ?_
    refine lv_aload_n hx hb dX0_plainLoss_46 rfl (lv_at hl1 2 rfl) ?_
    refine zy_get (v := .int (σ23 q1 2)) X Z28 xL_ok hq1 rfl rfl (fun w h => List.mem_cons_of_mem _ (List.mem_append_left _ (List.mem_append_right _ h))) 2 rfl (zz_m 3 rfl) rfl dX0_plainLoss_47 ?_
    obtain ⟨r29, σ30, hc31, hf32⟩ := zBd hf25
    clear hf25
    refine zy_ci (r0 := r29) (WS1 := zg_W XL ad cA σ30) (TYS1 := zg_T XL cA) Z28 (va_runSN (As := [.int r22, .int 0, .int (σ23 q1 2)]) (rest := []) X (c_X6_held l D V ad cA r22 0 (σ23 q1 2) σ23 r29 σ30 hc31 H26.size) ⟨va_cnB 3 hts gX0_plainLoss_X6_held_n120 rfl rfl rfl (zz_nw (q := (RX0, 120, yX6_held, RX6)) Z28.2.2.2.2.2 3 rfl) (hts _ (zz_m 6 rfl)) zh_X6_held ⟨Nat.le_of_ble_eq_true rfl, Nat.le_of_ble_eq_true rfl⟩, hts _ (zz_m 29 rfl), trivial⟩ (zz_pS Z28) rfl rfl hl1.1 rfl (lv_room (Nat.le_of_ble_eq_true rfl)) dX0_plainLoss_50 ⟨Nat.le_of_ble_eq_true rfl, Nat.le_of_ble_eq_true rfl⟩) (fun H33 lo34 Z35 => ?_)
    clear Z28 hc31
    exact zy_iret X hr hlk Z35 (zEnd hf32) dX0_plainLoss_53
  · have hf36 := zYes hf6 b10
    clear hf6
    refine lv_aload_n hx hb dX0_plainLoss_17 rfl (lv_at hl1 1 rfl) ?_
    obtain ⟨r37, σ38, hc39, hf40⟩ := zBd hf36
    clear hf36
    refine zy_ci (r0 := r37) (WS1 := zg_W XL ad cA σ38) (TYS1 := zg_T XL cA) Z9 (va_runV (As := []) (rest := []) X (c_X0_heat l D V ad cA q0 hq0 σ4 r37 σ38 hc39 H7.size) (cwV 0 hts gX0_plainLoss_X0_heat rfl rfl rfl ⟨rfl, zh_X0_heat⟩ ⟨Nat.le_of_ble_eq_true rfl, Nat.le_of_ble_eq_true rfl⟩) (zy_pV (ci := 0) Z9 xL_ok hq0 rfl rfl) rfl rfl hl1.1 rfl (lv_room (Nat.le_of_ble_eq_true rfl)) dX0_plainLoss_18 ⟨Nat.le_of_ble_eq_true rfl, Nat.le_of_ble_eq_true rfl⟩) (fun H41 lo42 Z43 => ?_)
    clear Z9 hc39
    refine lv_iconst (v := 5) hx hb dX0_plainLoss_21 (by decide) ?_
    refine lv_idiv hx hb dX0_plainLoss_22 (by decide) ?_
    exact zy_iret X hr hlk Z43 (zEnd hf40) dX0_plainLoss_23
def f_X4_sunLoss (q0 : Nat) (a1 : Int32) (σ : zg_S) : Option (Int32 × zg_S) := (if σ q0 0 = 1 then some (2 * a1, σ) else (if σ q0 0 = 2 then some (0, σ) else (if σ q0 0 = 3 then some ((2 * a1) + 5, σ) else (if σ q0 0 = 4 then some (0, σ) else (if σ q0 0 = 5 then some (a1 / 2, σ) else some (a1, σ))))))
set_option maxHeartbeats 4000000 in
set_option maxRecDepth 100000 in
theorem c_X4_sunLoss (l : Launch) (D : va_G) (V : zz_V) (ad : Nat → Nat) (cA : Nat → ClassId) (q0 : Nat) (a1 : Int32) (hq0 : XL.2.1 q0 = 4) (σ : zg_S) (r0 : Int32) (σf : zg_S) (hf : f_X4_sunLoss q0 a1 σ = some (r0, σf)) : zM_I l yX4_sunLoss wsX4_sunLoss 0 0 D V XL ad cA [.ref (ad q0), .int a1] σ r0 σf := by
  intro sz
  refine Met.ofW (cc := cX4_sunLoss) (maxL := 2) (ret := (some .int)) (by decide) rfl ?_
  intro p e s m args below meth c s₁ B hml hv
  obtain ⟨rfl, hC⟩ := hv
  have hx := B.exec
  have hb := B.bytes
  have hr := B.returns
  have hts := atoms_spec (ws := wsX4_sunLoss) B.pre
  have hown : s.vm.findClass RX4 = some m.cls := findClass_of_methodNamed B.named
  have hlk := B.notSynchronized
  have X : CallFix p m c cX4_sunLoss 2 s _ wsX4_sunLoss RX4 := ⟨hx, hb, hml, hown, hts⟩
  have Z := zz_enter hC
  generalize va_A (zg_W XL ad cA σ) sz = A at Z ⊢
  have hl := lv_entry ([.ref (ad q0), .int a1]) (n := 2) (Nat.le_of_ble_eq_true rfl)
  rw [lg_entry_eq]
  generalize (lg_sl ([.ref (ad q0), .int a1]) ++ List.replicate (2 - (lg_sl ([.ref (ad q0), .int a1])).length) Slot.unset).toArray = ls at hl ⊢
  have hl : lv_has ls 2 [(0, .ref (ad q0)), (1, .int a1)] := hl
  unfold f_X4_sunLoss at hf
  refine lv_aload_n hx hb dX4_sunLoss_0 rfl (lv_at hl 0 rfl) ?_
  refine zy_get (v := .int (σ q0 0)) X Z xL_ok hq0 rfl rfl (fun w h => List.mem_cons_of_mem _ (List.mem_append_right _ h)) 0 rfl (zz_m 1 rfl) rfl dX4_sunLoss_1 ?_
  by_cases w1 : σ q0 0 = 1
  · have hf2 := zYes hf w1
    clear hf
    refine zz_v w1 ?_
    refine lv_tableIn (x := 1) (off := 36) (tgt := 40) hx hb dX4_sunLoss_4 (by decide) (by decide) rfl (by decide) ?_
    refine lv_iconst (v := 2) hx hb dX4_sunLoss_40 (by decide) ?_
    refine lv_iload_n hx hb dX4_sunLoss_41 rfl (lv_at hl 1 rfl) ?_
    refine lv_imul hx hb dX4_sunLoss_42 ?_
    exact zy_iret X hr hlk Z (zEnd hf2) dX4_sunLoss_43
  · have hf3 := zNot hf w1
    clear hf
    by_cases w4 : σ q0 0 = 2
    · have hf5 := zYes hf3 w4
      clear hf3
      refine zz_v w4 ?_
      refine lv_tableIn (x := 2) (off := 46) (tgt := 50) hx hb dX4_sunLoss_4 (by decide) (by decide) rfl (by decide) ?_
      refine lv_iconst (v := 0) hx hb dX4_sunLoss_50 (by decide) ?_
      exact zy_iret X hr hlk Z (zEnd hf5) dX4_sunLoss_51
    · have hf6 := zNot hf3 w4
      clear hf3
      by_cases w7 : σ q0 0 = 3
      · have hf8 := zYes hf6 w7
        clear hf6
        refine zz_v w7 ?_
        refine lv_tableIn (x := 3) (off := 40) (tgt := 44) hx hb dX4_sunLoss_4 (by decide) (by decide) rfl (by decide) ?_
        refine lv_iconst (v := 2) hx hb dX4_sunLoss_44 (by decide) ?_
        refine lv_iload_n hx hb dX4_sunLoss_45 rfl (lv_at hl 1 rfl) ?_
        refine lv_imul hx hb dX4_sunLoss_46 ?_
        refine lv_iconst (v := 5) hx hb dX4_sunLoss_47 (by decide) ?_
        refine lv_iadd hx hb dX4_sunLoss_48 ?_
        exact zy_iret X hr hlk Z (zEnd hf8) dX4_sunLoss_49
      · have hf9 := zNot hf6 w7
        clear hf6
        by_cases w10 : σ q0 0 = 4
        · have hf11 := zYes hf9 w10
          clear hf9
          refine zz_v w10 ?_
          refine lv_tableIn (x := 4) (off := 48) (tgt := 52) hx hb dX4_sunLoss_4 (by decide) (by decide) rfl (by decide) ?_
          refine lv_iconst (v := 0) hx hb dX4_sunLoss_52 (by decide) ?_
          exact zy_iret X hr hlk Z (zEnd hf11) dX4_sunLoss_53
        · have hf12 := zNot hf9 w10
          clear hf9
          by_cases w13 : σ q0 0 = 5
          · have hf14 := zYes hf12 w13
            clear hf12
            refine zz_v w13 ?_
            refine lv_tableIn (x := 5) (off := 50) (tgt := 54) hx hb dX4_sunLoss_4 (by decide) (by decide) rfl (by decide) ?_
            refine lv_iload_n hx hb dX4_sunLoss_54 rfl (lv_at hl 1 rfl) ?_
            refine lv_iconst (v := 2) hx hb dX4_sunLoss_55 (by decide) ?_
            refine lv_idiv hx hb dX4_sunLoss_56 (by decide) ?_
            exact zy_iret X hr hlk Z (zEnd hf14) dX4_sunLoss_57
          · have hf15 := zNot hf12 w13
            clear hf12
            have n16 := zNe (k := 1) (y := 1) (by decide) w1
            have n17 := zNe (k := 2) (y := 2) (by decide) w4
            have n18 := zNe (k := 3) (y := 3) (by decide) w7
            have n19 := zNe (k := 4) (y := 4) (by decide) w10
            have n20 := zNe (k := 5) (y := 5) (by decide) w13
            refine lv_tableOut (tgt := 58) hx hb dX4_sunLoss_4 (by omega) (by decide) ?_
            refine lv_iload_n hx hb dX4_sunLoss_58 rfl (lv_at hl 1 rfl) ?_
            exact zy_iret X hr hlk Z (zEnd hf15) dX4_sunLoss_59
def B_X0_lossOf_36 (q0 : Nat) (q1 : Nat) (y0 : Int32) (σ : zg_S) : Option (Int32 × zg_S) := zlet (if y0 < (σ q1 2) then y0 else σ q1 2) (fun (y3 : Int32) => some (y3, σ))
def f_X0_lossOf (q0 : Nat) (q1 : Nat) (σ : zg_S) : Option (Int32 × zg_S) := (if (σ q1 2) = 0 then some (0, σ) else zbd (f_X0_shades q0 (σ q1 1) σ) (fun (r8 : Int32) (σ9 : zg_S) => (if r8 = 0 then zbd (f_X0_plainLoss q0 q1 σ9) (fun (r17 : Int32) (σ18 : zg_S) => zbd (f_X4_sunLoss q1 r17 σ18) (fun (r24 : Int32) (σ25 : zg_S) => B_X0_lossOf_36 q0 q1 r24 σ25)) else zbd (f_X4_shadeLoss q1 σ9) (fun (r32 : Int32) (σ33 : zg_S) => B_X0_lossOf_36 q0 q1 r32 σ33))))
set_option maxHeartbeats 4000000 in
set_option maxRecDepth 100000 in
theorem c_X0_lossOf (l : Launch) (D : va_G) (V : zz_V) (ad : Nat → Nat) (cA : Nat → ClassId) (q0 : Nat) (q1 : Nat) (hq0 : XL.2.1 q0 = 0) (hq1 : XL.2.1 q1 = 4) (σ : zg_S) (r0 : Int32) (σf : zg_S) (hf : f_X0_lossOf q0 q1 σ = some (r0, σf)) : zM_I l yX0_lossOf wsX0_lossOf 3 70 D V XL ad cA [.ref (ad q0), .ref (ad q1)] σ r0 σf := by
  intro sz
  refine Met.ofW (cc := cX0_lossOf) (maxL := 3) (ret := (some .int)) (by decide) rfl ?_
  intro p e s m args below meth c s₁ B hml hv
  obtain ⟨rfl, hC⟩ := hv
  have hx := B.exec
  have hb := B.bytes
  have hr := B.returns
  have hts := atoms_spec (ws := wsX0_lossOf) B.pre
  have hown : s.vm.findClass RX0 = some m.cls := findClass_of_methodNamed B.named
  have hlk := B.notSynchronized
  have X : CallFix p m c cX0_lossOf 3 s _ wsX0_lossOf RX0 := ⟨hx, hb, hml, hown, hts⟩
  have Z := zz_enter hC
  generalize va_A (zg_W XL ad cA σ) sz = A at Z ⊢
  have hl := lv_entry ([.ref (ad q0), .ref (ad q1)]) (n := 3) (Nat.le_of_ble_eq_true rfl)
  rw [lg_entry_eq]
  generalize (lg_sl ([.ref (ad q0), .ref (ad q1)]) ++ List.replicate (3 - (lg_sl ([.ref (ad q0), .ref (ad q1)])).length) Slot.unset).toArray = ls at hl ⊢
  have hl : lv_has ls 3 [(0, .ref (ad q0)), (1, .ref (ad q1))] := hl
  unfold f_X0_lossOf at hf
  have b36_ : ∀ (y0 : Int32) (σ : zg_S), B_X0_lossOf_36 q0 q1 y0 σ = some (r0, σf) → ∀ (H : Heap) (locs : List Loc) (ls : Array Slot), zz_S D V A s (zg_W XL ad cA σ) (zg_T XL cA) H locs → lv_has ls 3 [(1, .ref (ad q1))] → W p l e (headSpec wsX0_lossOf { frames := 3, cells := 0, slots := 0, locals := 70 }).room s m (List.toArray [.ref (ad q0), .ref (ad q1)]) below meth c H locs 0 0 (MQ below (va_Qi (fun r (_ : Unit) => r = r0) (fun _ t => zz_B D A (zg_W XL ad cA σf) (zg_T XL cA) t) A) (List.toArray [.ref (ad q0), .ref (ad q1)]) s 0 0 A) (F0 m 36 ls [.int y0]) := by
    intro y0 σ hf36_ H36_ locs36_ ls36_ Z36_ hl36_
    unfold B_X0_lossOf_36 at hf36_
    refine lv_istore_n (lv' := [(2, .int y0), (1, .ref (ad q1))]) hx hb dX0_lossOf_36 rfl hl36_ (by decide) rfl (fun ls2 hl1 => ?_)
    clear hl36_
    refine lv_aload_n hx hb dX0_lossOf_37 rfl (lv_at hl1 1 rfl) ?_
    refine zy_get (v := .int (σ q1 2)) X Z36_ xL_ok hq1 rfl rfl (fun w h => List.mem_cons_of_mem _ (List.mem_append_left _ (List.mem_append_left _ (List.mem_append_right _ h)))) 2 rfl (zz_m 1 rfl) rfl dX0_lossOf_38 ?_
    refine lv_iload_n hx hb dX0_lossOf_41 rfl (lv_at hl1 0 rfl) ?_
    refine va_mmin hx hb (by rw [hml]; exact hl1.1.symm) hown (hts _ (zz_m 3 rfl)) (hts _ (zz_m 4 rfl)) (hts _ (zz_m 5 rfl)) (hts _ (zz_m 6 rfl)) (Nat.le_of_ble_eq_true rfl) (Nat.le_of_ble_eq_true rfl) (Nat.le_of_ble_eq_true rfl) (Nat.le_of_ble_eq_true rfl) dX0_lossOf_42 ?_
    obtain ⟨y3, ey4, hf5⟩ := zLet hf36_
    clear hf36_
    refine zz_v (v := y3) ey4.symm ?_
    clear ey4
    exact zy_iret X hr hlk Z36_ (zEnd hf5) dX0_lossOf_45
  refine lv_aload_n hx hb dX0_lossOf_0 rfl (lv_at hl 1 rfl) ?_
  refine zy_get (v := .int (σ q1 2)) X Z xL_ok hq1 rfl rfl (fun w h => List.mem_cons_of_mem _ (List.mem_append_left _ (List.mem_append_left _ (List.mem_append_right _ h)))) 2 rfl (zz_m 1 rfl) rfl dX0_lossOf_1 ?_
  refine lv_if_ne (tgt := 9) hx hb dX0_lossOf_4 (by decide) (fun b6 => ?_) (fun b6 => ?_)
  · have hf7 := zNot hf b6
    clear hf
    refine lv_aload_n hx hb dX0_lossOf_9 rfl (lv_at hl 0 rfl) ?_
    refine lv_aload_n hx hb dX0_lossOf_10 rfl (lv_at hl 1 rfl) ?_
    refine zy_get (v := .int (σ q1 1)) X Z xL_ok hq1 rfl rfl (fun w h => List.mem_cons_of_mem _ (List.mem_append_left _ (List.mem_append_left _ (List.mem_append_right _ h)))) 1 rfl (zz_m 2 rfl) rfl dX0_lossOf_11 ?_
    obtain ⟨r8, σ9, hc10, hf11⟩ := zBd hf7
    clear hf7
    refine zy_ci (r0 := r8) (WS1 := zg_W XL ad cA σ9) (TYS1 := zg_T XL cA) Z (va_runV (As := [.int (σ q1 1)]) (rest := []) X (c_X0_shades l D V ad cA q0 (σ q1 1) hq0 σ r8 σ9 hc10 s.heap.size) (cwV 1 hts gX0_lossOf_X0_shades rfl rfl rfl ⟨rfl, zh_X0_shades⟩ ⟨Nat.le_of_ble_eq_true rfl, Nat.le_of_ble_eq_true rfl⟩) (zy_pV (ci := 0) Z xL_ok hq0 rfl rfl) rfl rfl hl.1 rfl (lv_room (Nat.le_of_ble_eq_true rfl)) dX0_lossOf_14 ⟨Nat.le_of_ble_eq_true rfl, Nat.le_of_ble_eq_true rfl⟩) (fun H12 lo13 Z14 => ?_)
    clear Z hc10
    refine lv_if_eq (tgt := 27) hx hb dX0_lossOf_17 (by decide) (fun b15 => ?_) (fun b15 => ?_)
    · have hf16 := zYes hf11 b15
      clear hf11
      refine lv_aload_n hx hb dX0_lossOf_27 rfl (lv_at hl 1 rfl) ?_
      refine lv_aload_n hx hb dX0_lossOf_28 rfl (lv_at hl 0 rfl) ?_
      refine lv_aload_n hx hb dX0_lossOf_29 rfl (lv_at hl 1 rfl) ?_
      obtain ⟨r17, σ18, hc19, hf20⟩ := zBd hf16
      clear hf16
      refine zy_ci (r0 := r17) (WS1 := zg_W XL ad cA σ18) (TYS1 := zg_T XL cA) Z14 (va_runV (As := [.ref (ad q1)]) (rest := [.ref (ad q1)]) X (c_X0_plainLoss l D V ad cA q0 q1 hq0 hq1 σ9 r17 σ18 hc19 H12.size) (cwV 1 hts gX0_lossOf_X0_plainLoss rfl rfl rfl ⟨rfl, zh_X0_plainLoss⟩ ⟨Nat.le_of_ble_eq_true rfl, Nat.le_of_ble_eq_true rfl⟩) (zy_pV (ci := 0) Z14 xL_ok hq0 rfl rfl) rfl rfl hl.1 rfl (lv_room (Nat.le_of_ble_eq_true rfl)) dX0_lossOf_30 ⟨Nat.le_of_ble_eq_true rfl, Nat.le_of_ble_eq_true rfl⟩) (fun H21 lo22 Z23 => ?_)
      clear Z14 hc19
      obtain ⟨r24, σ25, hc26, hf27⟩ := zBd hf20
      clear hf20
      refine zy_ci (r0 := r24) (WS1 := zg_W XL ad cA σ25) (TYS1 := zg_T XL cA) Z23 (va_runV (As := [.int r17]) (rest := []) X (c_X4_sunLoss l D V ad cA q1 r17 hq1 σ18 r24 σ25 hc26 H21.size) (cwV 1 hts gX0_lossOf_X4_sunLoss rfl rfl rfl ⟨rfl, zh_X4_sunLoss⟩ ⟨Nat.le_of_ble_eq_true rfl, Nat.le_of_ble_eq_true rfl⟩) (zy_pV (ci := 4) Z23 xL_ok hq1 rfl rfl) rfl rfl hl.1 rfl (lv_room (Nat.le_of_ble_eq_true rfl)) dX0_lossOf_33 ⟨Nat.le_of_ble_eq_true rfl, Nat.le_of_ble_eq_true rfl⟩) (fun H28 lo29 Z30 => ?_)
      clear Z23 hc26
      exact b36_ r24 σ25 hf27 _ _ _ Z30 (lv_sub hl [1] rfl)
    · have hf31 := zNot hf11 b15
      clear hf11
      refine lv_aload_n hx hb dX0_lossOf_20 rfl (lv_at hl 1 rfl) ?_
      obtain ⟨r32, σ33, hc34, hf35⟩ := zBd hf31
      clear hf31
      refine zy_ci (r0 := r32) (WS1 := zg_W XL ad cA σ33) (TYS1 := zg_T XL cA) Z14 (va_runV (As := []) (rest := []) X (c_X4_shadeLoss l D V ad cA q1 hq1 σ9 r32 σ33 hc34 H12.size) (cwV 0 hts gX0_lossOf_X4_shadeLoss rfl rfl rfl ⟨rfl, zh_X4_shadeLoss⟩ ⟨Nat.le_of_ble_eq_true rfl, Nat.le_of_ble_eq_true rfl⟩) (zy_pV (ci := 4) Z14 xL_ok hq1 rfl rfl) rfl rfl hl.1 rfl (lv_room (Nat.le_of_ble_eq_true rfl)) dX0_lossOf_21 ⟨Nat.le_of_ble_eq_true rfl, Nat.le_of_ble_eq_true rfl⟩) (fun H36 lo37 Z38 => ?_)
      clear Z14 hc34
      refine lv_goto (tgt := 36) hx hb dX0_lossOf_24 (by decide) ?_
      exact b36_ r32 σ33 hf35 _ _ _ Z38 (lv_sub hl [1] rfl)
  · have hf39 := zYes hf b6
    clear hf
    refine lv_iconst (v := 0) hx hb dX0_lossOf_7 (by decide) ?_
    exact zy_iret X hr hlk Z (zEnd hf39) dX0_lossOf_8
def B_X0_haulingByLoss_78 (q0 : Nat) (rec6_ : Int32 → Int32 → Int32 → zg_S → Option (Int32 × zg_S)) (x1 : Int32) (x2 : Int32) (x3 : Int32) (σ : zg_S) : Option (Int32 × zg_S) := rec6_ x1 x2 (x3 + 1) σ
def B_X0_haulingByLoss_77 (q0 : Nat) (rec6_ : Int32 → Int32 → Int32 → zg_S → Option (Int32 × zg_S)) (x2 : Int32) (x3 : Int32) (y0 : Int32) (σ : zg_S) : Option (Int32 × zg_S) := B_X0_haulingByLoss_78 q0 rec6_ y0 x2 x3 σ
def B_X0_haulingByLoss_44 (q0 : Nat) (rec6_ : Int32 → Int32 → Int32 → zg_S → Option (Int32 × zg_S)) (x1 : Int32) (x2 : Int32) (x3 : Int32) (q4v : Nat) (y0 : Int32) (σ : zg_S) : Option (Int32 × zg_S) := (if y0 ≤ x2 then B_X0_haulingByLoss_78 q0 rec6_ x1 x2 x3 σ else zbd (f_X0_slant q0 σ) (fun (r12 : Int32) (σ13 : zg_S) => (if ((σ q0 6) + r12) ≤ (σ q4v 1) then B_X0_haulingByLoss_77 q0 rec6_ y0 x3 2 σ13 else B_X0_haulingByLoss_77 q0 rec6_ y0 x3 1 σ13)))
def B_X0_haulingByLoss_6 (q0 : Nat) (rec6_ : Int32 → Int32 → Int32 → zg_S → Option (Int32 × zg_S)) (x1 : Int32) (x2 : Int32) (x3 : Int32) (σ : zg_S) : Option (Int32 × zg_S) := (if (σ q0 3) ≤ x3 then some (x1, σ) else (if zin x3 9 = true then zbd (f_X0_shades q0 (σ ((q0 + 1) + 2 + (Int32.toNatClampNeg x3)) 1) σ) (fun (r30 : Int32) (σ31 : zg_S) => (if r30 = 0 then zbd (f_X0_lossOf q0 ((q0 + 1) + 2 + (Int32.toNatClampNeg x3)) σ31) (fun (r39 : Int32) (σ40 : zg_S) => B_X0_haulingByLoss_44 q0 rec6_ x1 x2 x3 ((q0 + 1) + 2 + (Int32.toNatClampNeg x3)) r39 σ40) else B_X0_haulingByLoss_44 q0 rec6_ x1 x2 x3 ((q0 + 1) + 2 + (Int32.toNatClampNeg x3)) 0 σ31)) else none))
def L_X0_haulingByLoss_6 (q0 : Nat) : Nat → Int32 → Int32 → Int32 → zg_S → Option (Int32 × zg_S) := zfix (fun _ _ _ _ => none) (B_X0_haulingByLoss_6 q0)
def f_X0_haulingByLoss (q0 : Nat) (σ : zg_S) : Option (Int32 × zg_S) := L_X0_haulingByLoss_6 q0 zfu 0 0 0 σ
set_option maxHeartbeats 4000000 in
set_option maxRecDepth 100000 in
theorem c_X0_haulingByLoss (l : Launch) (D : va_G) (V : zz_V) (ad : Nat → Nat) (cA : Nat → ClassId) (q0 : Nat) (hq0 : XL.2.1 q0 = 0) (σ : zg_S) (r0 : Int32) (σf : zg_S) (hf : f_X0_haulingByLoss q0 σ = some (r0, σf)) : zM_I l yX0_haulingByLoss wsX0_haulingByLoss 4 92 D V XL ad cA [.ref (ad q0)] σ r0 σf := by
  intro sz
  refine Met.ofW (cc := cX0_haulingByLoss) (maxL := 6) (ret := (some .int)) (by decide) rfl ?_
  intro p e s m args below meth c s₁ B hml hv
  obtain ⟨rfl, hC⟩ := hv
  have hx := B.exec
  have hb := B.bytes
  have hr := B.returns
  have hts := atoms_spec (ws := wsX0_haulingByLoss) B.pre
  have hown : s.vm.findClass RX0 = some m.cls := findClass_of_methodNamed B.named
  have hlk := B.notSynchronized
  have X : CallFix p m c cX0_haulingByLoss 6 s _ wsX0_haulingByLoss RX0 := ⟨hx, hb, hml, hown, hts⟩
  have Z := zz_enter hC
  generalize va_A (zg_W XL ad cA σ) sz = A at Z ⊢
  have hl := lv_entry ([.ref (ad q0)]) (n := 6) (Nat.le_of_ble_eq_true rfl)
  rw [lg_entry_eq]
  generalize (lg_sl ([.ref (ad q0)]) ++ List.replicate (6 - (lg_sl ([.ref (ad q0)])).length) Slot.unset).toArray = ls at hl ⊢
  have hl : lv_has ls 6 [(0, .ref (ad q0))] := hl
  unfold f_X0_haulingByLoss at hf
  have b6_ : ∀ (k6_ : Nat) (x1 : Int32) (x2 : Int32) (x3 : Int32) (σ : zg_S), L_X0_haulingByLoss_6 q0 k6_ x1 x2 x3 σ = some (r0, σf) → ∀ (H : Heap) (locs : List Loc) (ls : Array Slot), zz_S D V A s (zg_W XL ad cA σ) (zg_T XL cA) H locs → lv_has ls 6 [(0, .ref (ad q0)), (1, .int x1), (2, .int x2), (3, .int x3)] → W p l e (headSpec wsX0_haulingByLoss { frames := 4, cells := 0, slots := 0, locals := 92 }).room s m (List.toArray [.ref (ad q0)]) below meth c H locs 0 0 (MQ below (va_Qi (fun r (_ : Unit) => r = r0) (fun _ t => zz_B D A (zg_W XL ad cA σf) (zg_T XL cA) t) A) (List.toArray [.ref (ad q0)]) s 0 0 A) (F0 m 6 ls []) := by
    intro k6_
    induction k6_ with
    | zero =>
        intro x1 x2 x3 σ hf6_ H6_ locs6_ ls6_ Z6_ hl6_
        exact zNone hf6_
    | succ k6_ ih6_ =>
        intro x1 x2 x3 σ hf6_ H6_ locs6_ ls6_ Z6_ hl6_
        replace hf6_ : B_X0_haulingByLoss_6 q0 (L_X0_haulingByLoss_6 q0 k6_) x1 x2 x3 σ = some (r0, σf) := hf6_
        unfold B_X0_haulingByLoss_6 at hf6_
        have b44_ : ∀ (x1 : Int32) (x2 : Int32) (x3 : Int32) (q4v : Nat) (y0 : Int32) (hq4v : XL.2.1 q4v = 4) (σ : zg_S), B_X0_haulingByLoss_44 q0 (L_X0_haulingByLoss_6 q0 k6_) x1 x2 x3 q4v y0 σ = some (r0, σf) → ∀ (H : Heap) (locs : List Loc) (ls : Array Slot), zz_S D V A s (zg_W XL ad cA σ) (zg_T XL cA) H locs → lv_has ls 6 [(0, .ref (ad q0)), (1, .int x1), (2, .int x2), (3, .int x3), (4, .ref (ad q4v))] → W p l e (headSpec wsX0_haulingByLoss { frames := 4, cells := 0, slots := 0, locals := 92 }).room s m (List.toArray [.ref (ad q0)]) below meth c H locs 0 0 (MQ below (va_Qi (fun r (_ : Unit) => r = r0) (fun _ t => zz_B D A (zg_W XL ad cA σf) (zg_T XL cA) t) A) (List.toArray [.ref (ad q0)]) s 0 0 A) (F0 m 44 ls [.int y0]) := by
          intro x1 x2 x3 q4v y0 hq4v σ hf44_ H44_ locs44_ ls44_ Z44_ hl44_
          unfold B_X0_haulingByLoss_44 at hf44_
          have b78_ : ∀ (x1 : Int32) (x2 : Int32) (x3 : Int32) (σ : zg_S), B_X0_haulingByLoss_78 q0 (L_X0_haulingByLoss_6 q0 k6_) x1 x2 x3 σ = some (r0, σf) → ∀ (H : Heap) (locs : List Loc) (ls : Array Slot), zz_S D V A s (zg_W XL ad cA σ) (zg_T XL cA) H locs → lv_has ls 6 [(0, .ref (ad q0)), (1, .int x1), (2, .int x2), (3, .int x3)] → W p l e (headSpec wsX0_haulingByLoss { frames := 4, cells := 0, slots := 0, locals := 92 }).room s m (List.toArray [.ref (ad q0)]) below meth c H locs 0 0 (MQ below (va_Qi (fun r (_ : Unit) => r = r0) (fun _ t => zz_B D A (zg_W XL ad cA σf) (zg_T XL cA) t) A) (List.toArray [.ref (ad q0)]) s 0 0 A) (F0 m 78 ls []) := by
            intro x1 x2 x3 σ hf78_ H78_ locs78_ ls78_ Z78_ hl78_
            unfold B_X0_haulingByLoss_78 at hf78_
            refine lv_iinc (v := (x3 + 1)) (lv' := [(3, .int (x3 + 1)), (0, .ref (ad q0)), (1, .int x1), (2, .int x2)]) hx hb dX0_haulingByLoss_78 hl78_ (k := 3) rfl rfl (by decide) rfl (fun ls2 hl1 => ?_)
            clear hl78_
            refine lv_goto (tgt := 6) hx hb dX0_haulingByLoss_81 (by decide) ?_
            exact ih6_ x1 x2 (x3 + 1) σ hf78_ _ _ _ Z78_ (lv_sub hl1 [1, 2, 3, 0] rfl)
          have b77_ : ∀ (x2 : Int32) (x3 : Int32) (y0 : Int32) (σ : zg_S), B_X0_haulingByLoss_77 q0 (L_X0_haulingByLoss_6 q0 k6_) x2 x3 y0 σ = some (r0, σf) → ∀ (H : Heap) (locs : List Loc) (ls : Array Slot), zz_S D V A s (zg_W XL ad cA σ) (zg_T XL cA) H locs → lv_has ls 6 [(0, .ref (ad q0)), (2, .int x2), (3, .int x3)] → W p l e (headSpec wsX0_haulingByLoss { frames := 4, cells := 0, slots := 0, locals := 92 }).room s m (List.toArray [.ref (ad q0)]) below meth c H locs 0 0 (MQ below (va_Qi (fun r (_ : Unit) => r = r0) (fun _ t => zz_B D A (zg_W XL ad cA σf) (zg_T XL cA) t) A) (List.toArray [.ref (ad q0)]) s 0 0 A) (F0 m 77 ls [.int y0]) := by
            intro x2 x3 y0 σ hf77_ H77_ locs77_ ls77_ Z77_ hl77_
            unfold B_X0_haulingByLoss_77 at hf77_
            refine lv_istore_n (lv' := [(1, .int y0), (0, .ref (ad q0)), (2, .int x2), (3, .int x3)]) hx hb dX0_haulingByLoss_77 rfl hl77_ (by decide) rfl (fun ls4 hl3 => ?_)
            clear hl77_
            exact b78_ y0 x2 x3 σ hf77_ _ _ _ Z77_ (lv_sub hl3 [1, 0, 2, 3] rfl)
          refine lv_istore (lv' := [(5, .int y0), (0, .ref (ad q0)), (1, .int x1), (2, .int x2), (3, .int x3), (4, .ref (ad q4v))]) hx hb dX0_haulingByLoss_44 hl44_ (by decide) rfl (fun ls6 hl5 => ?_)
          clear hl44_
          refine lv_iload hx hb dX0_haulingByLoss_46 (lv_at hl5 0 rfl) ?_
          refine lv_iload_n hx hb dX0_haulingByLoss_48 rfl (lv_at hl5 3 rfl) ?_
          refine lv_icmp_le (tgt := 78) hx hb dX0_haulingByLoss_49 (by decide) (fun b7 => ?_) (fun b7 => ?_)
          · have hf8 := zYes hf44_ b7
            clear hf44_
            exact b78_ x1 x2 x3 σ hf8 _ _ _ Z44_ (lv_sub hl5 [1, 2, 3, 4] rfl)
          · have hf9 := zNot hf44_ b7
            clear hf44_
            refine lv_iload hx hb dX0_haulingByLoss_52 (lv_at hl5 0 rfl) ?_
            refine lv_istore_n (lv' := [(2, .int y0), (5, .int y0), (0, .ref (ad q0)), (1, .int x1), (3, .int x3), (4, .ref (ad q4v))]) hx hb dX0_haulingByLoss_54 rfl hl5 (by decide) rfl (fun ls11 hl10 => ?_)
            clear hl5
            refine lv_aload hx hb dX0_haulingByLoss_55 (lv_at hl10 5 rfl) ?_
            refine zy_get (v := .int (σ q4v 1)) X Z44_ xL_ok hq4v rfl rfl (fun w h => List.mem_cons_of_mem _ (List.mem_append_left _ (List.mem_append_right _ h))) 1 rfl (zz_m 3 rfl) rfl dX0_haulingByLoss_57 ?_
            refine lv_aload_n hx hb dX0_haulingByLoss_60 rfl (lv_at hl10 2 rfl) ?_
            refine zy_get (v := .int (σ q0 6)) X Z44_ xL_ok hq0 rfl rfl (fun w h => List.mem_cons_of_mem _ (List.mem_append_left _ (List.mem_append_left _ (List.mem_append_right _ h)))) 6 rfl (zz_m 4 rfl) rfl dX0_haulingByLoss_61 ?_
            refine lv_aload_n hx hb dX0_haulingByLoss_64 rfl (lv_at hl10 2 rfl) ?_
            obtain ⟨r12, σ13, hc14, hf15⟩ := zBd hf9
            clear hf9
            refine zy_ci (r0 := r12) (WS1 := zg_W XL ad cA σ13) (TYS1 := zg_T XL cA) Z44_ (va_runV (As := []) (rest := [.int (σ q0 6), .int (σ q4v 1)]) X (c_X0_slant l D V ad cA q0 hq0 σ r12 σ13 hc14 H44_.size) (cwV 0 hts gX0_haulingByLoss_X0_slant rfl rfl rfl ⟨rfl, zh_X0_slant⟩ ⟨Nat.le_of_ble_eq_true rfl, Nat.le_of_ble_eq_true rfl⟩) (zy_pV (ci := 0) Z44_ xL_ok hq0 rfl rfl) rfl rfl hl10.1 rfl (lv_room (Nat.le_of_ble_eq_true rfl)) dX0_haulingByLoss_65 ⟨Nat.le_of_ble_eq_true rfl, Nat.le_of_ble_eq_true rfl⟩) (fun H16 lo17 Z18 => ?_)
            clear Z44_ hc14
            refine lv_iadd hx hb dX0_haulingByLoss_68 ?_
            refine lv_icmp_ge (tgt := 76) hx hb dX0_haulingByLoss_69 (by decide) (fun b19 => ?_) (fun b19 => ?_)
            · have hf20 := zYes hf15 b19
              clear hf15
              refine lv_iconst (v := 2) hx hb dX0_haulingByLoss_76 (by decide) ?_
              exact b77_ y0 x3 2 σ13 hf20 _ _ _ Z18 (lv_sub hl10 [2, 0, 4] rfl)
            · have hf21 := zNot hf15 b19
              clear hf15
              refine lv_iconst (v := 1) hx hb dX0_haulingByLoss_72 (by decide) ?_
              refine lv_goto (tgt := 77) hx hb dX0_haulingByLoss_73 (by decide) ?_
              exact b77_ y0 x3 1 σ13 hf21 _ _ _ Z18 (lv_sub hl10 [2, 0, 4] rfl)
        refine lv_iload_n hx hb dX0_haulingByLoss_6 rfl (lv_at hl6_ 3 rfl) ?_
        refine lv_aload_n hx hb dX0_haulingByLoss_7 rfl (lv_at hl6_ 0 rfl) ?_
        refine zy_get (v := .int (σ q0 3)) X Z6_ xL_ok hq0 rfl rfl (fun w h => List.mem_cons_of_mem _ (List.mem_append_left _ (List.mem_append_left _ (List.mem_append_right _ h)))) 3 rfl (zz_m 1 rfl) rfl dX0_haulingByLoss_8 ?_
        refine lv_icmp_ge (tgt := 84) hx hb dX0_haulingByLoss_11 (by decide) (fun b22 => ?_) (fun b22 => ?_)
        · have hf23 := zYes hf6_ b22
          clear hf6_
          refine lv_iload_n hx hb dX0_haulingByLoss_84 rfl (lv_at hl6_ 1 rfl) ?_
          exact zy_iret X hr hlk Z6_ (zEnd hf23) dX0_haulingByLoss_85
        · have hf24 := zNot hf6_ b22
          clear hf6_
          refine lv_aload_n hx hb dX0_haulingByLoss_14 rfl (lv_at hl6_ 0 rfl) ?_
          refine zy_get (v := .ref (ad (q0 + 1))) X Z6_ xL_ok hq0 rfl rfl (fun w h => List.mem_cons_of_mem _ (List.mem_append_left _ (List.mem_append_left _ (List.mem_append_right _ h)))) 1 rfl (zz_m 2 rfl) rfl dX0_haulingByLoss_15 ?_
          refine lv_iload_n hx hb dX0_haulingByLoss_18 rfl (lv_at hl6_ 3 rfl) ?_
          obtain ⟨⟨i25, j26⟩, hf27⟩ := zG hf24
          clear hf24
          refine zy_ald (v := ((q0 + 1) + 2 + (Int32.toNatClampNeg x3))) (C := RX4) X Z6_ xL_ok (xB1 hq0) rfl rfl (xB1l hq0) rfl i25 rfl dX0_haulingByLoss_19 ?_
          refine lv_astore (lv' := [(4, .ref (ad ((q0 + 1) + 2 + (Int32.toNatClampNeg x3)))), (0, .ref (ad q0)), (1, .int x1), (2, .int x2), (3, .int x3)]) hx hb dX0_haulingByLoss_20 hl6_ (by decide) rfl (fun ls29 hl28 => ?_)
          clear hl6_
          refine lv_aload_n hx hb dX0_haulingByLoss_22 rfl (lv_at hl28 1 rfl) ?_
          refine lv_aload hx hb dX0_haulingByLoss_23 (lv_at hl28 0 rfl) ?_
          refine zy_get (v := .int (σ ((q0 + 1) + 2 + (Int32.toNatClampNeg x3)) 1)) X Z6_ xL_ok (xS (xB1 hq0) j26) rfl rfl (fun w h => List.mem_cons_of_mem _ (List.mem_append_left _ (List.mem_append_right _ h))) 1 rfl (zz_m 3 rfl) rfl dX0_haulingByLoss_25 ?_
          obtain ⟨r30, σ31, hc32, hf33⟩ := zBd hf27
          clear hf27
          refine zy_ci (r0 := r30) (WS1 := zg_W XL ad cA σ31) (TYS1 := zg_T XL cA) Z6_ (va_runV (As := [.int (σ ((q0 + 1) + 2 + (Int32.toNatClampNeg x3)) 1)]) (rest := []) X (c_X0_shades l D V ad cA q0 (σ ((q0 + 1) + 2 + (Int32.toNatClampNeg x3)) 1) hq0 σ r30 σ31 hc32 H6_.size) (cwV 1 hts gX0_haulingByLoss_X0_shades rfl rfl rfl ⟨rfl, zh_X0_shades⟩ ⟨Nat.le_of_ble_eq_true rfl, Nat.le_of_ble_eq_true rfl⟩) (zy_pV (ci := 0) Z6_ xL_ok hq0 rfl rfl) rfl rfl hl28.1 rfl (lv_room (Nat.le_of_ble_eq_true rfl)) dX0_haulingByLoss_28 ⟨Nat.le_of_ble_eq_true rfl, Nat.le_of_ble_eq_true rfl⟩) (fun H34 lo35 Z36 => ?_)
          clear Z6_ hc32
          refine lv_if_eq (tgt := 38) hx hb dX0_haulingByLoss_31 (by decide) (fun b37 => ?_) (fun b37 => ?_)
          · have hf38 := zYes hf33 b37
            clear hf33
            refine lv_aload_n hx hb dX0_haulingByLoss_38 rfl (lv_at hl28 1 rfl) ?_
            refine lv_aload hx hb dX0_haulingByLoss_39 (lv_at hl28 0 rfl) ?_
            obtain ⟨r39, σ40, hc41, hf42⟩ := zBd hf38
            clear hf38
            refine zy_ci (r0 := r39) (WS1 := zg_W XL ad cA σ40) (TYS1 := zg_T XL cA) Z36 (va_runV (As := [.ref (ad ((q0 + 1) + 2 + (Int32.toNatClampNeg x3)))]) (rest := []) X (c_X0_lossOf l D V ad cA q0 ((q0 + 1) + 2 + (Int32.toNatClampNeg x3)) hq0 (xS (xB1 hq0) j26) σ31 r39 σ40 hc41 H34.size) (cwV 1 hts gX0_haulingByLoss_X0_lossOf rfl rfl rfl ⟨rfl, zh_X0_lossOf⟩ ⟨Nat.le_of_ble_eq_true rfl, Nat.le_of_ble_eq_true rfl⟩) (zy_pV (ci := 0) Z36 xL_ok hq0 rfl rfl) rfl rfl hl28.1 rfl (lv_room (Nat.le_of_ble_eq_true rfl)) dX0_haulingByLoss_41 ⟨Nat.le_of_ble_eq_true rfl, Nat.le_of_ble_eq_true rfl⟩) (fun H43 lo44 Z45 => ?_)
            clear Z36 hc41
            exact b44_ x1 x2 x3 ((q0 + 1) + 2 + (Int32.toNatClampNeg x3)) r39 (xS (xB1 hq0) j26) σ40 hf42 _ _ _ Z45 (lv_sub hl28 [1, 2, 3, 4, 0] rfl)
          · have hf46 := zNot hf33 b37
            clear hf33
            refine lv_iconst (v := 0) hx hb dX0_haulingByLoss_34 (by decide) ?_
            refine lv_goto (tgt := 44) hx hb dX0_haulingByLoss_35 (by decide) ?_
            exact b44_ x1 x2 x3 ((q0 + 1) + 2 + (Int32.toNatClampNeg x3)) 0 (xS (xB1 hq0) j26) σ31 hf46 _ _ _ Z36 (lv_sub hl28 [1, 2, 3, 4, 0] rfl)
  refine lv_iconst (v := 0) hx hb dX0_haulingByLoss_0 (by decide) ?_
  refine lv_istore_n (lv' := [(1, .int 0), (0, .ref (ad q0))]) hx hb dX0_haulingByLoss_1 rfl hl (by decide) rfl (fun ls48 hl47 => ?_)
  clear hl
  refine lv_iconst (v := 0) hx hb dX0_haulingByLoss_2 (by decide) ?_
  refine lv_istore_n (lv' := [(2, .int 0), (1, .int 0), (0, .ref (ad q0))]) hx hb dX0_haulingByLoss_3 rfl hl47 (by decide) rfl (fun ls50 hl49 => ?_)
  clear hl47
  refine lv_iconst (v := 0) hx hb dX0_haulingByLoss_4 (by decide) ?_
  refine lv_istore_n (lv' := [(3, .int 0), (2, .int 0), (1, .int 0), (0, .ref (ad q0))]) hx hb dX0_haulingByLoss_5 rfl hl49 (by decide) rfl (fun ls52 hl51 => ?_)
  clear hl49
  exact b6_ zfu 0 0 0 σ hf _ _ _ Z (lv_sub hl51 [3, 2, 1, 0] rfl)
def B_X0_payUnder_41 (q0 : Nat) (a1 : Int32) (rec4_ : Int32 → Int32 → zg_S → Option (Int32 × zg_S)) (x2 : Int32) (x3 : Int32) (σ : zg_S) : Option (Int32 × zg_S) := rec4_ x2 (x3 + 1) σ
def B_X0_payUnder_4 (q0 : Nat) (a1 : Int32) (rec4_ : Int32 → Int32 → zg_S → Option (Int32 × zg_S)) (x2 : Int32) (x3 : Int32) (σ : zg_S) : Option (Int32 × zg_S) := (if (σ q0 3) ≤ x3 then some (x2, σ) else (if zin x3 9 = true then zbd (f_X0_wouldShade q0 a1 (σ ((q0 + 1) + 2 + (Int32.toNatClampNeg x3)) 1) σ) (fun (r9 : Int32) (σ10 : zg_S) => (if r9 = 0 then B_X0_payUnder_41 q0 a1 rec4_ x2 x3 σ10 else zlet (x2 + (σ10 ((q0 + 1) + 2 + (Int32.toNatClampNeg x3)) 3)) (fun (y19 : Int32) => B_X0_payUnder_41 q0 a1 rec4_ y19 x3 σ10))) else none))
def L_X0_payUnder_4 (q0 : Nat) (a1 : Int32) : Nat → Int32 → Int32 → zg_S → Option (Int32 × zg_S) := zfix (fun _ _ _ => none) (B_X0_payUnder_4 q0 a1)
def f_X0_payUnder (q0 : Nat) (a1 : Int32) (σ : zg_S) : Option (Int32 × zg_S) := L_X0_payUnder_4 q0 a1 zfu 0 0 σ
set_option maxHeartbeats 4000000 in
set_option maxRecDepth 100000 in
theorem c_X0_payUnder (l : Launch) (D : va_G) (V : zz_V) (ad : Nat → Nat) (cA : Nat → ClassId) (q0 : Nat) (a1 : Int32) (hq0 : XL.2.1 q0 = 0) (σ : zg_S) (r0 : Int32) (σf : zg_S) (hf : f_X0_payUnder q0 a1 σ = some (r0, σf)) : zM_I l yX0_payUnder wsX0_payUnder 2 43 D V XL ad cA [.ref (ad q0), .int a1] σ r0 σf := by
  intro sz
  refine Met.ofW (cc := cX0_payUnder) (maxL := 4) (ret := (some .int)) (by decide) rfl ?_
  intro p e s m args below meth c s₁ B hml hv
  obtain ⟨rfl, hC⟩ := hv
  have hx := B.exec
  have hb := B.bytes
  have hr := B.returns
  have hts := atoms_spec (ws := wsX0_payUnder) B.pre
  have hown : s.vm.findClass RX0 = some m.cls := findClass_of_methodNamed B.named
  have hlk := B.notSynchronized
  have X : CallFix p m c cX0_payUnder 4 s _ wsX0_payUnder RX0 := ⟨hx, hb, hml, hown, hts⟩
  have Z := zz_enter hC
  generalize va_A (zg_W XL ad cA σ) sz = A at Z ⊢
  have hl := lv_entry ([.ref (ad q0), .int a1]) (n := 4) (Nat.le_of_ble_eq_true rfl)
  rw [lg_entry_eq]
  generalize (lg_sl ([.ref (ad q0), .int a1]) ++ List.replicate (4 - (lg_sl ([.ref (ad q0), .int a1])).length) Slot.unset).toArray = ls at hl ⊢
  have hl : lv_has ls 4 [(0, .ref (ad q0)), (1, .int a1)] := hl
  unfold f_X0_payUnder at hf
  have b4_ : ∀ (k4_ : Nat) (x2 : Int32) (x3 : Int32) (σ : zg_S), L_X0_payUnder_4 q0 a1 k4_ x2 x3 σ = some (r0, σf) → ∀ (H : Heap) (locs : List Loc) (ls : Array Slot), zz_S D V A s (zg_W XL ad cA σ) (zg_T XL cA) H locs → lv_has ls 4 [(0, .ref (ad q0)), (1, .int a1), (2, .int x2), (3, .int x3)] → W p l e (headSpec wsX0_payUnder { frames := 2, cells := 0, slots := 0, locals := 43 }).room s m (List.toArray [.ref (ad q0), .int a1]) below meth c H locs 0 0 (MQ below (va_Qi (fun r (_ : Unit) => r = r0) (fun _ t => zz_B D A (zg_W XL ad cA σf) (zg_T XL cA) t) A) (List.toArray [.ref (ad q0), .int a1]) s 0 0 A) (F0 m 4 ls []) := by
    intro k4_
    induction k4_ with
    | zero =>
        intro x2 x3 σ hf4_ H4_ locs4_ ls4_ Z4_ hl4_
        exact zNone hf4_
    | succ k4_ ih4_ =>
        intro x2 x3 σ hf4_ H4_ locs4_ ls4_ Z4_ hl4_
        replace hf4_ : B_X0_payUnder_4 q0 a1 (L_X0_payUnder_4 q0 a1 k4_) x2 x3 σ = some (r0, σf) := hf4_
        unfold B_X0_payUnder_4 at hf4_
        have b41_ : ∀ (x2 : Int32) (x3 : Int32) (σ : zg_S), B_X0_payUnder_41 q0 a1 (L_X0_payUnder_4 q0 a1 k4_) x2 x3 σ = some (r0, σf) → ∀ (H : Heap) (locs : List Loc) (ls : Array Slot), zz_S D V A s (zg_W XL ad cA σ) (zg_T XL cA) H locs → lv_has ls 4 [(0, .ref (ad q0)), (1, .int a1), (2, .int x2), (3, .int x3)] → W p l e (headSpec wsX0_payUnder { frames := 2, cells := 0, slots := 0, locals := 43 }).room s m (List.toArray [.ref (ad q0), .int a1]) below meth c H locs 0 0 (MQ below (va_Qi (fun r (_ : Unit) => r = r0) (fun _ t => zz_B D A (zg_W XL ad cA σf) (zg_T XL cA) t) A) (List.toArray [.ref (ad q0), .int a1]) s 0 0 A) (F0 m 41 ls []) := by
          intro x2 x3 σ hf41_ H41_ locs41_ ls41_ Z41_ hl41_
          unfold B_X0_payUnder_41 at hf41_
          refine lv_iinc (v := (x3 + 1)) (lv' := [(3, .int (x3 + 1)), (0, .ref (ad q0)), (1, .int a1), (2, .int x2)]) hx hb dX0_payUnder_41 hl41_ (k := 3) rfl rfl (by decide) rfl (fun ls2 hl1 => ?_)
          clear hl41_
          refine lv_goto (tgt := 4) hx hb dX0_payUnder_44 (by decide) ?_
          exact ih4_ x2 (x3 + 1) σ hf41_ _ _ _ Z41_ (lv_sub hl1 [1, 2, 3, 0] rfl)
        refine lv_iload_n hx hb dX0_payUnder_4 rfl (lv_at hl4_ 3 rfl) ?_
        refine lv_aload_n hx hb dX0_payUnder_5 rfl (lv_at hl4_ 0 rfl) ?_
        refine zy_get (v := .int (σ q0 3)) X Z4_ xL_ok hq0 rfl rfl (fun w h => List.mem_cons_of_mem _ (List.mem_append_left _ (List.mem_append_right _ h))) 3 rfl (zz_m 1 rfl) rfl dX0_payUnder_6 ?_
        refine lv_icmp_ge (tgt := 47) hx hb dX0_payUnder_9 (by decide) (fun b3 => ?_) (fun b3 => ?_)
        · have hf4 := zYes hf4_ b3
          clear hf4_
          refine lv_iload_n hx hb dX0_payUnder_47 rfl (lv_at hl4_ 2 rfl) ?_
          exact zy_iret X hr hlk Z4_ (zEnd hf4) dX0_payUnder_48
        · have hf5 := zNot hf4_ b3
          clear hf4_
          refine lv_aload_n hx hb dX0_payUnder_12 rfl (lv_at hl4_ 0 rfl) ?_
          refine lv_iload_n hx hb dX0_payUnder_13 rfl (lv_at hl4_ 1 rfl) ?_
          refine lv_aload_n hx hb dX0_payUnder_14 rfl (lv_at hl4_ 0 rfl) ?_
          refine zy_get (v := .ref (ad (q0 + 1))) X Z4_ xL_ok hq0 rfl rfl (fun w h => List.mem_cons_of_mem _ (List.mem_append_left _ (List.mem_append_right _ h))) 1 rfl (zz_m 2 rfl) rfl dX0_payUnder_15 ?_
          refine lv_iload_n hx hb dX0_payUnder_18 rfl (lv_at hl4_ 3 rfl) ?_
          obtain ⟨⟨i6, j7⟩, hf8⟩ := zG hf5
          clear hf5
          refine zy_ald (v := ((q0 + 1) + 2 + (Int32.toNatClampNeg x3))) (C := RX4) X Z4_ xL_ok (xB1 hq0) rfl rfl (xB1l hq0) rfl i6 rfl dX0_payUnder_19 ?_
          refine zy_get (v := .int (σ ((q0 + 1) + 2 + (Int32.toNatClampNeg x3)) 1)) X Z4_ xL_ok (xS (xB1 hq0) j7) rfl rfl (fun w h => List.mem_cons_of_mem _ (List.mem_append_right _ h)) 1 rfl (zz_m 3 rfl) rfl dX0_payUnder_20 ?_
          obtain ⟨r9, σ10, hc11, hf12⟩ := zBd hf8
          clear hf8
          refine zy_ci (r0 := r9) (WS1 := zg_W XL ad cA σ10) (TYS1 := zg_T XL cA) Z4_ (va_runV (As := [.int a1, .int (σ ((q0 + 1) + 2 + (Int32.toNatClampNeg x3)) 1)]) (rest := []) X (c_X0_wouldShade l D V ad cA q0 a1 (σ ((q0 + 1) + 2 + (Int32.toNatClampNeg x3)) 1) hq0 σ r9 σ10 hc11 H4_.size) (cwV 2 hts gX0_payUnder_X0_wouldShade rfl rfl rfl ⟨rfl, zh_X0_wouldShade⟩ ⟨Nat.le_of_ble_eq_true rfl, Nat.le_of_ble_eq_true rfl⟩) (zy_pV (ci := 0) Z4_ xL_ok hq0 rfl rfl) rfl rfl hl4_.1 rfl (lv_room (Nat.le_of_ble_eq_true rfl)) dX0_payUnder_23 ⟨Nat.le_of_ble_eq_true rfl, Nat.le_of_ble_eq_true rfl⟩) (fun H13 lo14 Z15 => ?_)
          clear Z4_ hc11
          refine lv_if_eq (tgt := 41) hx hb dX0_payUnder_26 (by decide) (fun b16 => ?_) (fun b16 => ?_)
          · have hf17 := zYes hf12 b16
            clear hf12
            exact b41_ x2 x3 σ10 hf17 _ _ _ Z15 (lv_sub hl4_ [0, 1, 2, 3] rfl)
          · have hf18 := zNot hf12 b16
            clear hf12
            refine lv_iload_n hx hb dX0_payUnder_29 rfl (lv_at hl4_ 2 rfl) ?_
            refine lv_aload_n hx hb dX0_payUnder_30 rfl (lv_at hl4_ 0 rfl) ?_
            refine zy_get (v := .ref (ad (q0 + 1))) X Z15 xL_ok hq0 rfl rfl (fun w h => List.mem_cons_of_mem _ (List.mem_append_left _ (List.mem_append_right _ h))) 1 rfl (zz_m 2 rfl) rfl dX0_payUnder_31 ?_
            refine lv_iload_n hx hb dX0_payUnder_34 rfl (lv_at hl4_ 3 rfl) ?_
            refine zy_ald (v := ((q0 + 1) + 2 + (Int32.toNatClampNeg x3))) (C := RX4) X Z15 xL_ok (xB1 hq0) rfl rfl (xB1l hq0) rfl i6 rfl dX0_payUnder_35 ?_
            refine zy_get (v := .int (σ10 ((q0 + 1) + 2 + (Int32.toNatClampNeg x3)) 3)) X Z15 xL_ok (xS (xB1 hq0) j7) rfl rfl (fun w h => List.mem_cons_of_mem _ (List.mem_append_right _ h)) 3 rfl (zz_m 4 rfl) rfl dX0_payUnder_36 ?_
            refine lv_iadd hx hb dX0_payUnder_39 ?_
            obtain ⟨y19, ey20, hf21⟩ := zLet hf18
            clear hf18
            refine zz_v (v := y19) ey20.symm ?_
            clear ey20
            refine lv_istore_n (lv' := [(2, .int y19), (0, .ref (ad q0)), (1, .int a1), (3, .int x3)]) hx hb dX0_payUnder_40 rfl hl4_ (by decide) rfl (fun ls23 hl22 => ?_)
            clear hl4_
            exact b41_ y19 x3 σ10 hf21 _ _ _ Z15 (lv_sub hl22 [1, 2, 0, 3] rfl)
  refine lv_iconst (v := 0) hx hb dX0_payUnder_0 (by decide) ?_
  refine lv_istore_n (lv' := [(2, .int 0), (0, .ref (ad q0)), (1, .int a1)]) hx hb dX0_payUnder_1 rfl hl (by decide) rfl (fun ls25 hl24 => ?_)
  clear hl
  refine lv_iconst (v := 0) hx hb dX0_payUnder_2 (by decide) ?_
  refine lv_istore_n (lv' := [(3, .int 0), (2, .int 0), (0, .ref (ad q0)), (1, .int a1)]) hx hb dX0_payUnder_3 rfl hl24 (by decide) rfl (fun ls27 hl26 => ?_)
  clear hl24
  exact b4_ zfu 0 0 σ hf _ _ _ Z (lv_sub hl26 [2, 3, 1, 0] rfl)
def B_X0_haulingByPay_33 (q0 : Nat) (rec6_ : Int32 → Int32 → Int32 → zg_S → Option (Int32 × zg_S)) (x1 : Int32) (x2 : Int32) (x3 : Int32) (σ : zg_S) : Option (Int32 × zg_S) := rec6_ x1 x2 (x3 + 1) σ
def B_X0_haulingByPay_6 (q0 : Nat) (rec6_ : Int32 → Int32 → Int32 → zg_S → Option (Int32 × zg_S)) (x1 : Int32) (x2 : Int32) (x3 : Int32) (σ : zg_S) : Option (Int32 × zg_S) := (if 3 ≤ x3 then some (x1, σ) else zbd (f_X0_hauledTo q0 x3 σ) (fun (r6 : Int32) (σ7 : zg_S) => zbd (f_X0_payUnder q0 r6 σ7) (fun (r13 : Int32) (σ14 : zg_S) => (if r13 ≤ x2 then B_X0_haulingByPay_33 q0 rec6_ x1 x2 x3 σ14 else B_X0_haulingByPay_33 q0 rec6_ x3 r13 x3 σ14))))
def L_X0_haulingByPay_6 (q0 : Nat) : Nat → Int32 → Int32 → Int32 → zg_S → Option (Int32 × zg_S) := zfix (fun _ _ _ _ => none) (B_X0_haulingByPay_6 q0)
def f_X0_haulingByPay (q0 : Nat) (σ : zg_S) : Option (Int32 × zg_S) := L_X0_haulingByPay_6 q0 zfu 0 (-1) 0 σ
set_option maxHeartbeats 4000000 in
set_option maxRecDepth 100000 in
theorem c_X0_haulingByPay (l : Launch) (D : va_G) (V : zz_V) (ad : Nat → Nat) (cA : Nat → ClassId) (q0 : Nat) (hq0 : XL.2.1 q0 = 0) (σ : zg_S) (r0 : Int32) (σf : zg_S) (hf : f_X0_haulingByPay q0 σ = some (r0, σf)) : zM_I l yX0_haulingByPay wsX0_haulingByPay 3 66 D V XL ad cA [.ref (ad q0)] σ r0 σf := by
  intro sz
  refine Met.ofW (cc := cX0_haulingByPay) (maxL := 5) (ret := (some .int)) (by decide) rfl ?_
  intro p e s m args below meth c s₁ B hml hv
  obtain ⟨rfl, hC⟩ := hv
  have hx := B.exec
  have hb := B.bytes
  have hr := B.returns
  have hts := atoms_spec (ws := wsX0_haulingByPay) B.pre
  have hown : s.vm.findClass RX0 = some m.cls := findClass_of_methodNamed B.named
  have hlk := B.notSynchronized
  have X : CallFix p m c cX0_haulingByPay 5 s _ wsX0_haulingByPay RX0 := ⟨hx, hb, hml, hown, hts⟩
  have Z := zz_enter hC
  generalize va_A (zg_W XL ad cA σ) sz = A at Z ⊢
  have hl := lv_entry ([.ref (ad q0)]) (n := 5) (Nat.le_of_ble_eq_true rfl)
  rw [lg_entry_eq]
  generalize (lg_sl ([.ref (ad q0)]) ++ List.replicate (5 - (lg_sl ([.ref (ad q0)])).length) Slot.unset).toArray = ls at hl ⊢
  have hl : lv_has ls 5 [(0, .ref (ad q0))] := hl
  unfold f_X0_haulingByPay at hf
  have b6_ : ∀ (k6_ : Nat) (x1 : Int32) (x2 : Int32) (x3 : Int32) (σ : zg_S), L_X0_haulingByPay_6 q0 k6_ x1 x2 x3 σ = some (r0, σf) → ∀ (H : Heap) (locs : List Loc) (ls : Array Slot), zz_S D V A s (zg_W XL ad cA σ) (zg_T XL cA) H locs → lv_has ls 5 [(0, .ref (ad q0)), (1, .int x1), (2, .int x2), (3, .int x3)] → W p l e (headSpec wsX0_haulingByPay { frames := 3, cells := 0, slots := 0, locals := 66 }).room s m (List.toArray [.ref (ad q0)]) below meth c H locs 0 0 (MQ below (va_Qi (fun r (_ : Unit) => r = r0) (fun _ t => zz_B D A (zg_W XL ad cA σf) (zg_T XL cA) t) A) (List.toArray [.ref (ad q0)]) s 0 0 A) (F0 m 6 ls []) := by
    intro k6_
    induction k6_ with
    | zero =>
        intro x1 x2 x3 σ hf6_ H6_ locs6_ ls6_ Z6_ hl6_
        exact zNone hf6_
    | succ k6_ ih6_ =>
        intro x1 x2 x3 σ hf6_ H6_ locs6_ ls6_ Z6_ hl6_
        replace hf6_ : B_X0_haulingByPay_6 q0 (L_X0_haulingByPay_6 q0 k6_) x1 x2 x3 σ = some (r0, σf) := hf6_
        unfold B_X0_haulingByPay_6 at hf6_
        have b33_ : ∀ (x1 : Int32) (x2 : Int32) (x3 : Int32) (σ : zg_S), B_X0_haulingByPay_33 q0 (L_X0_haulingByPay_6 q0 k6_) x1 x2 x3 σ = some (r0, σf) → ∀ (H : Heap) (locs : List Loc) (ls : Array Slot), zz_S D V A s (zg_W XL ad cA σ) (zg_T XL cA) H locs → lv_has ls 5 [(0, .ref (ad q0)), (1, .int x1), (2, .int x2), (3, .int x3)] → W p l e (headSpec wsX0_haulingByPay { frames := 3, cells := 0, slots := 0, locals := 66 }).room s m (List.toArray [.ref (ad q0)]) below meth c H locs 0 0 (MQ below (va_Qi (fun r (_ : Unit) => r = r0) (fun _ t => zz_B D A (zg_W XL ad cA σf) (zg_T XL cA) t) A) (List.toArray [.ref (ad q0)]) s 0 0 A) (F0 m 33 ls []) := by
          intro x1 x2 x3 σ hf33_ H33_ locs33_ ls33_ Z33_ hl33_
          unfold B_X0_haulingByPay_33 at hf33_
          refine lv_iinc (v := (x3 + 1)) (lv' := [(3, .int (x3 + 1)), (0, .ref (ad q0)), (1, .int x1), (2, .int x2)]) hx hb dX0_haulingByPay_33 hl33_ (k := 3) rfl rfl (by decide) rfl (fun ls2 hl1 => ?_)
          clear hl33_
          refine lv_goto (tgt := 6) hx hb dX0_haulingByPay_36 (by decide) ?_
          exact ih6_ x1 x2 (x3 + 1) σ hf33_ _ _ _ Z33_ (lv_sub hl1 [1, 2, 3, 0] rfl)
        refine lv_iload_n hx hb dX0_haulingByPay_6 rfl (lv_at hl6_ 3 rfl) ?_
        refine lv_iconst (v := 3) hx hb dX0_haulingByPay_7 (by decide) ?_
        refine lv_icmp_ge (tgt := 39) hx hb dX0_haulingByPay_8 (by decide) (fun b3 => ?_) (fun b3 => ?_)
        · have hf4 := zYes hf6_ b3
          clear hf6_
          refine lv_iload_n hx hb dX0_haulingByPay_39 rfl (lv_at hl6_ 1 rfl) ?_
          exact zy_iret X hr hlk Z6_ (zEnd hf4) dX0_haulingByPay_40
        · have hf5 := zNot hf6_ b3
          clear hf6_
          refine lv_aload_n hx hb dX0_haulingByPay_11 rfl (lv_at hl6_ 0 rfl) ?_
          refine lv_aload_n hx hb dX0_haulingByPay_12 rfl (lv_at hl6_ 0 rfl) ?_
          refine lv_iload_n hx hb dX0_haulingByPay_13 rfl (lv_at hl6_ 3 rfl) ?_
          obtain ⟨r6, σ7, hc8, hf9⟩ := zBd hf5
          clear hf5
          refine zy_ci (r0 := r6) (WS1 := zg_W XL ad cA σ7) (TYS1 := zg_T XL cA) Z6_ (va_runV (As := [.int x3]) (rest := [.ref (ad q0)]) X (c_X0_hauledTo l D V ad cA q0 x3 hq0 σ r6 σ7 hc8 H6_.size) (cwV 1 hts gX0_haulingByPay_X0_hauledTo rfl rfl rfl ⟨rfl, zh_X0_hauledTo⟩ ⟨Nat.le_of_ble_eq_true rfl, Nat.le_of_ble_eq_true rfl⟩) (zy_pV (ci := 0) Z6_ xL_ok hq0 rfl rfl) rfl rfl hl6_.1 rfl (lv_room (Nat.le_of_ble_eq_true rfl)) dX0_haulingByPay_14 ⟨Nat.le_of_ble_eq_true rfl, Nat.le_of_ble_eq_true rfl⟩) (fun H10 lo11 Z12 => ?_)
          clear Z6_ hc8
          obtain ⟨r13, σ14, hc15, hf16⟩ := zBd hf9
          clear hf9
          refine zy_ci (r0 := r13) (WS1 := zg_W XL ad cA σ14) (TYS1 := zg_T XL cA) Z12 (va_runV (As := [.int r6]) (rest := []) X (c_X0_payUnder l D V ad cA q0 r6 hq0 σ7 r13 σ14 hc15 H10.size) (cwV 1 hts gX0_haulingByPay_X0_payUnder rfl rfl rfl ⟨rfl, zh_X0_payUnder⟩ ⟨Nat.le_of_ble_eq_true rfl, Nat.le_of_ble_eq_true rfl⟩) (zy_pV (ci := 0) Z12 xL_ok hq0 rfl rfl) rfl rfl hl6_.1 rfl (lv_room (Nat.le_of_ble_eq_true rfl)) dX0_haulingByPay_17 ⟨Nat.le_of_ble_eq_true rfl, Nat.le_of_ble_eq_true rfl⟩) (fun H17 lo18 Z19 => ?_)
          clear Z12 hc15
          refine lv_istore (lv' := [(4, .int r13), (0, .ref (ad q0)), (1, .int x1), (2, .int x2), (3, .int x3)]) hx hb dX0_haulingByPay_20 hl6_ (by decide) rfl (fun ls21 hl20 => ?_)
          clear hl6_
          refine lv_iload hx hb dX0_haulingByPay_22 (lv_at hl20 0 rfl) ?_
          refine lv_iload_n hx hb dX0_haulingByPay_24 rfl (lv_at hl20 3 rfl) ?_
          refine lv_icmp_le (tgt := 33) hx hb dX0_haulingByPay_25 (by decide) (fun b22 => ?_) (fun b22 => ?_)
          · have hf23 := zYes hf16 b22
            clear hf16
            exact b33_ x1 x2 x3 σ14 hf23 _ _ _ Z19 (lv_sub hl20 [1, 2, 3, 4] rfl)
          · have hf24 := zNot hf16 b22
            clear hf16
            refine lv_iload hx hb dX0_haulingByPay_28 (lv_at hl20 0 rfl) ?_
            refine lv_istore_n (lv' := [(2, .int r13), (4, .int r13), (0, .ref (ad q0)), (1, .int x1), (3, .int x3)]) hx hb dX0_haulingByPay_30 rfl hl20 (by decide) rfl (fun ls26 hl25 => ?_)
            clear hl20
            refine lv_iload_n hx hb dX0_haulingByPay_31 rfl (lv_at hl25 4 rfl) ?_
            refine lv_istore_n (lv' := [(1, .int x3), (2, .int r13), (4, .int r13), (0, .ref (ad q0)), (3, .int x3)]) hx hb dX0_haulingByPay_32 rfl hl25 (by decide) rfl (fun ls28 hl27 => ?_)
            clear hl25
            exact b33_ x3 r13 x3 σ14 hf24 _ _ _ Z19 (lv_sub hl27 [3, 0, 1, 4] rfl)
  refine lv_iconst (v := 0) hx hb dX0_haulingByPay_0 (by decide) ?_
  refine lv_istore_n (lv' := [(1, .int 0), (0, .ref (ad q0))]) hx hb dX0_haulingByPay_1 rfl hl (by decide) rfl (fun ls30 hl29 => ?_)
  clear hl
  refine lv_iconst (v := (-1)) hx hb dX0_haulingByPay_2 (by decide) ?_
  refine lv_istore_n (lv' := [(2, .int (-1)), (1, .int 0), (0, .ref (ad q0))]) hx hb dX0_haulingByPay_3 rfl hl29 (by decide) rfl (fun ls32 hl31 => ?_)
  clear hl29
  refine lv_iconst (v := 0) hx hb dX0_haulingByPay_4 (by decide) ?_
  refine lv_istore_n (lv' := [(3, .int 0), (2, .int (-1)), (1, .int 0), (0, .ref (ad q0))]) hx hb dX0_haulingByPay_5 rfl hl31 (by decide) rfl (fun ls34 hl33 => ?_)
  clear hl31
  exact b6_ zfu 0 (-1) 0 σ hf _ _ _ Z (lv_sub hl33 [3, 2, 1, 0] rfl)
def f_X0_hauling (q0 : Nat) (σ : zg_S) : Option (Int32 × zg_S) := (if σ q0 9 = 1 then zbd (f_X0_haulingByLoss q0 σ) (fun (r3 : Int32) (σ4 : zg_S) => some (r3, σ4)) else (if σ q0 9 = 2 then zbd (f_X0_haulingByPay q0 σ) (fun (r13 : Int32) (σ14 : zg_S) => some (r13, σ14)) else some (0, σ)))
set_option maxHeartbeats 4000000 in
set_option maxRecDepth 100000 in
theorem c_X0_hauling (l : Launch) (D : va_G) (V : zz_V) (ad : Nat → Nat) (cA : Nat → ClassId) (q0 : Nat) (hq0 : XL.2.1 q0 = 0) (σ : zg_S) (r0 : Int32) (σf : zg_S) (hf : f_X0_hauling q0 σ = some (r0, σf)) : zM_I l yX0_hauling wsX0_hauling 5 117 D V XL ad cA [.ref (ad q0)] σ r0 σf := by
  intro sz
  refine Met.ofW (cc := cX0_hauling) (maxL := 1) (ret := (some .int)) (by decide) rfl ?_
  intro p e s m args below meth c s₁ B hml hv
  obtain ⟨rfl, hC⟩ := hv
  have hx := B.exec
  have hb := B.bytes
  have hr := B.returns
  have hts := atoms_spec (ws := wsX0_hauling) B.pre
  have hown : s.vm.findClass RX0 = some m.cls := findClass_of_methodNamed B.named
  have hlk := B.notSynchronized
  have X : CallFix p m c cX0_hauling 1 s _ wsX0_hauling RX0 := ⟨hx, hb, hml, hown, hts⟩
  have Z := zz_enter hC
  generalize va_A (zg_W XL ad cA σ) sz = A at Z ⊢
  have hl := lv_entry ([.ref (ad q0)]) (n := 1) (Nat.le_of_ble_eq_true rfl)
  rw [lg_entry_eq]
  generalize (lg_sl ([.ref (ad q0)]) ++ List.replicate (1 - (lg_sl ([.ref (ad q0)])).length) Slot.unset).toArray = ls at hl ⊢
  have hl : lv_has ls 1 [(0, .ref (ad q0))] := hl
  unfold f_X0_hauling at hf
  refine lv_aload_n hx hb dX0_hauling_0 rfl (lv_at hl 0 rfl) ?_
  refine zy_get (v := .int (σ q0 9)) X Z xL_ok hq0 rfl rfl (fun w h => List.mem_cons_of_mem _ (List.mem_append_left _ (List.mem_append_left _ (List.mem_append_right _ h)))) 9 rfl (zz_m 1 rfl) rfl dX0_hauling_1 ?_
  by_cases w1 : σ q0 9 = 1
  · have hf2 := zYes hf w1
    clear hf
    refine zz_v w1 ?_
    refine lv_lookup (x := 1) (off := 28) (tgt := 32) hx hb dX0_hauling_4 (by decide) (by decide) (by decide) ?_
    refine lv_aload_n hx hb dX0_hauling_32 rfl (lv_at hl 0 rfl) ?_
    obtain ⟨r3, σ4, hc5, hf6⟩ := zBd hf2
    clear hf2
    refine zy_ci (r0 := r3) (WS1 := zg_W XL ad cA σ4) (TYS1 := zg_T XL cA) Z (va_runV (As := []) (rest := []) X (c_X0_haulingByLoss l D V ad cA q0 hq0 σ r3 σ4 hc5 s.heap.size) (cwV 0 hts gX0_hauling_X0_haulingByLoss rfl rfl rfl ⟨rfl, zh_X0_haulingByLoss⟩ ⟨Nat.le_of_ble_eq_true rfl, Nat.le_of_ble_eq_true rfl⟩) (zy_pV (ci := 0) Z xL_ok hq0 rfl rfl) rfl rfl hl.1 rfl (lv_room (Nat.le_of_ble_eq_true rfl)) dX0_hauling_33 ⟨Nat.le_of_ble_eq_true rfl, Nat.le_of_ble_eq_true rfl⟩) (fun H7 lo8 Z9 => ?_)
    clear Z hc5
    exact zy_iret X hr hlk Z9 (zEnd hf6) dX0_hauling_36
  · have hf10 := zNot hf w1
    clear hf
    by_cases w11 : σ q0 9 = 2
    · have hf12 := zYes hf10 w11
      clear hf10
      refine zz_v w11 ?_
      refine lv_lookup (x := 2) (off := 33) (tgt := 37) hx hb dX0_hauling_4 (by decide) (by decide) (by decide) ?_
      refine lv_aload_n hx hb dX0_hauling_37 rfl (lv_at hl 0 rfl) ?_
      obtain ⟨r13, σ14, hc15, hf16⟩ := zBd hf12
      clear hf12
      refine zy_ci (r0 := r13) (WS1 := zg_W XL ad cA σ14) (TYS1 := zg_T XL cA) Z (va_runV (As := []) (rest := []) X (c_X0_haulingByPay l D V ad cA q0 hq0 σ r13 σ14 hc15 s.heap.size) (cwV 0 hts gX0_hauling_X0_haulingByPay rfl rfl rfl ⟨rfl, zh_X0_haulingByPay⟩ ⟨Nat.le_of_ble_eq_true rfl, Nat.le_of_ble_eq_true rfl⟩) (zy_pV (ci := 0) Z xL_ok hq0 rfl rfl) rfl rfl hl.1 rfl (lv_room (Nat.le_of_ble_eq_true rfl)) dX0_hauling_38 ⟨Nat.le_of_ble_eq_true rfl, Nat.le_of_ble_eq_true rfl⟩) (fun H17 lo18 Z19 => ?_)
      clear Z hc15
      exact zy_iret X hr hlk Z19 (zEnd hf16) dX0_hauling_41
    · have hf20 := zNot hf10 w11
      clear hf10
      have n21 := zNe (k := 1) (y := 1) (by decide) w1
      have n22 := zNe (k := 2) (y := 2) (by decide) w11
      refine lv_lookup (off := 38) (tgt := 42) hx hb dX0_hauling_4 (by decide) (by simp [Op.lookupswitch.offset, n21, n22, Ne.symm n21, Ne.symm n22]) (by decide) ?_
      refine lv_iconst (v := 0) hx hb dX0_hauling_42 (by decide) ?_
      exact zy_iret X hr hlk Z (zEnd hf20) dX0_hauling_43
