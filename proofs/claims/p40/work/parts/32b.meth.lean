def B_X7_check_189 (a1 : Int32) (x4 : Int32) (σ : zg_S) : Option (Int32 × zg_S) := some (1 + x4, σ)
def B_X7_check_173 (a1 : Int32) (x2 : Int32) (x3 : Int32) (x4 : Int32) (σ : zg_S) : Option (Int32 × zg_S) := (if x4 = x2 then (if x4 = x3 then some (0, σ) else B_X7_check_189 a1 x4 σ) else B_X7_check_189 a1 x4 σ)
def B_X7_check_138 (a1 : Int32) (rec138_ : Int32 → Int32 → Int32 → zg_S → Option (Int32 × zg_S)) (x2 : Int32) (x3 : Int32) (x4 : Int32) (σ : zg_S) : Option (Int32 × zg_S) := (if x2 ≤ x4 then B_X7_check_173 a1 x2 x3 x4 σ else (if x3 ≤ x4 then B_X7_check_173 a1 x2 x3 x4 σ else (if zin x4 60 = true then (if (σ 17 (Int32.toNatClampNeg x4)) = (σ 18 (Int32.toNatClampNeg x4)) then rec138_ x2 x3 (x4 + 1) σ else B_X7_check_173 a1 x2 x3 x4 σ) else none)))
def L_X7_check_138 (a1 : Int32) : Nat → Int32 → Int32 → Int32 → zg_S → Option (Int32 × zg_S) := zfix (fun _ _ _ _ => none) (B_X7_check_138 a1)
def B_X7_check_123 (a1 : Int32) (x2 : Int32) (x3 : Int32) (σ : zg_S) : Option (Int32 × zg_S) := zbd (f_X7_setAside 3 1 σ) (fun (r21 : Int32) (σ22 : zg_S) => L_X7_check_138 a1 zfu x2 x3 0 σ22)
def B_X7_check_65 (a1 : Int32) (rec65_ : Int32 → Int32 → Int32 → zg_S → Option (Int32 × zg_S)) (x2 : Int32) (x3 : Int32) (x4 : Int32) (σ : zg_S) : Option (Int32 × zg_S) := (if a1 ≤ x4 then B_X7_check_123 a1 x2 x3 σ else (if 9999 ≤ (σ 1 2) then B_X7_check_123 a1 x2 x3 σ else zbd (f_X7_goesOn σ) (fun (r36 : Int32) (σ37 : zg_S) => (if zin x3 60 = true then zlet (zg_up σ37 18 (Int32.toNatClampNeg x3) (σ37 1 4)) (fun (σ46 : zg_S) => (if zin (x3 + 1) 60 = true then zlet (zg_up σ46 18 (Int32.toNatClampNeg (x3 + 1)) (σ46 1 7)) (fun (σ55 : zg_S) => rec65_ x2 (x3 + 2) (x4 + 1) σ55) else none)) else none))))
def L_X7_check_65 (a1 : Int32) : Nat → Int32 → Int32 → Int32 → zg_S → Option (Int32 × zg_S) := zfix (fun _ _ _ _ => none) (B_X7_check_65 a1)
def f_X7_check (a1 : Int32) (σ : zg_S) : Option (Int32 × zg_S) := zlet (zg_up σ 0 29 0) (fun (σ67 : zg_S) => zbd (f_X7_isIn (Int32.toInt64 a1) (Int32.toInt64 1) (Int32.toInt64 30) σ67) (fun (r73 : Int32) (σ74 : zg_S) => (if r73 = 0 then some ((-1000000001), σ74) else (if (σ74 0 3) = 0 then some ((-1000000002), σ74) else zbd (f_X7_setAside 1 3 σ74) (fun (r84 : Int32) (σ85 : zg_S) => zbd (f_X7_setAside 2 1 σ85) (fun (r91 : Int32) (σ92 : zg_S) => L_X7_check_65 a1 zfu (σ 0 29) 0 0 σ92))))))
set_option maxHeartbeats 4000000 in
set_option maxRecDepth 100000 in
theorem c_X7_check (l : Launch) (D : va_G) (V : zz_V) (ad : Nat → Nat) (cA : Nat → ClassId) (a1 : Int32)  (σ : zg_S) (r0 : Int32) (σf : zg_S) (hf : f_X7_check a1 σ = some (r0, σf)) : zM_I l yX7_check wsX7_check 6 134 D V ML ad cA [.ref (ad 0), .int a1] σ r0 σf := by
  intro sz
  refine Met.ofW (cc := cX7_check) (maxL := 5) (ret := (some .int)) (by decide) rfl ?_
  intro p e s m args below meth c s₁ B hml hv
  obtain ⟨rfl, hC⟩ := hv
  have hx := B.exec
  have hb := B.bytes
  have hr := B.returns
  have hts := atoms_spec (ws := wsX7_check) B.pre
  have hown : s.vm.findClass RX7 = some m.cls := findClass_of_methodNamed B.named
  have hlk := B.notSynchronized
  have X : CallFix p m c cX7_check 5 s _ wsX7_check RX7 := ⟨hx, hb, hml, hown, hts⟩
  have Z := zz_enter hC
  generalize va_A (zg_W ML ad cA σ) sz = A at Z ⊢
  have hl := lv_entry ([.ref (ad 0), .int a1]) (n := 5) (Nat.le_of_ble_eq_true rfl)
  rw [lg_entry_eq]
  generalize (lg_sl ([.ref (ad 0), .int a1]) ++ List.replicate (5 - (lg_sl ([.ref (ad 0), .int a1])).length) Slot.unset).toArray = ls at hl ⊢
  have hl : lv_has ls 5 [(0, .ref (ad 0)), (1, .int a1)] := hl
  unfold f_X7_check at hf
  have b65_ : ∀ (k65_ : Nat) (x2 : Int32) (x3 : Int32) (x4 : Int32) (σ : zg_S), L_X7_check_65 a1 k65_ x2 x3 x4 σ = some (r0, σf) → ∀ (H : Heap) (locs : List Loc) (ls : Array Slot), zz_S D V A s (zg_W ML ad cA σ) (zg_T ML cA) H locs → lv_has ls 5 [(0, .ref (ad 0)), (1, .int a1), (2, .int x2), (3, .int x3), (4, .int x4)] → W p l e (headSpec wsX7_check { frames := 6, cells := 0, slots := 0, locals := 134 }).room s m (List.toArray [.ref (ad 0), .int a1]) below meth c H locs 0 0 (MQ below (va_Qi (fun r (_ : Unit) => r = r0) (fun _ t => zz_B D A (zg_W ML ad cA σf) (zg_T ML cA) t) A) (List.toArray [.ref (ad 0), .int a1]) s 0 0 A) (F0 m 65 ls []) := by
    intro k65_
    induction k65_ with
    | zero =>
        intro x2 x3 x4 σ hf65_ H65_ locs65_ ls65_ Z65_ hl65_
        exact zNone hf65_
    | succ k65_ ih65_ =>
        intro x2 x3 x4 σ hf65_ H65_ locs65_ ls65_ Z65_ hl65_
        replace hf65_ : B_X7_check_65 a1 (L_X7_check_65 a1 k65_) x2 x3 x4 σ = some (r0, σf) := hf65_
        unfold B_X7_check_65 at hf65_
        have b123_ : ∀ (x2 : Int32) (x3 : Int32) (σ : zg_S), B_X7_check_123 a1 x2 x3 σ = some (r0, σf) → ∀ (H : Heap) (locs : List Loc) (ls : Array Slot), zz_S D V A s (zg_W ML ad cA σ) (zg_T ML cA) H locs → lv_has ls 5 [(0, .ref (ad 0)), (2, .int x2), (3, .int x3)] → W p l e (headSpec wsX7_check { frames := 6, cells := 0, slots := 0, locals := 134 }).room s m (List.toArray [.ref (ad 0), .int a1]) below meth c H locs 0 0 (MQ below (va_Qi (fun r (_ : Unit) => r = r0) (fun _ t => zz_B D A (zg_W ML ad cA σf) (zg_T ML cA) t) A) (List.toArray [.ref (ad 0), .int a1]) s 0 0 A) (F0 m 123 ls []) := by
          intro x2 x3 σ hf123_ H123_ locs123_ ls123_ Z123_ hl123_
          unfold B_X7_check_123 at hf123_
          have b138_ : ∀ (k138_ : Nat) (x2 : Int32) (x3 : Int32) (x4 : Int32) (σ : zg_S), L_X7_check_138 a1 k138_ x2 x3 x4 σ = some (r0, σf) → ∀ (H : Heap) (locs : List Loc) (ls : Array Slot), zz_S D V A s (zg_W ML ad cA σ) (zg_T ML cA) H locs → lv_has ls 5 [(0, .ref (ad 0)), (2, .int x2), (3, .int x3), (4, .int x4)] → W p l e (headSpec wsX7_check { frames := 6, cells := 0, slots := 0, locals := 134 }).room s m (List.toArray [.ref (ad 0), .int a1]) below meth c H locs 0 0 (MQ below (va_Qi (fun r (_ : Unit) => r = r0) (fun _ t => zz_B D A (zg_W ML ad cA σf) (zg_T ML cA) t) A) (List.toArray [.ref (ad 0), .int a1]) s 0 0 A) (F0 m 138 ls []) := by
            intro k138_
            induction k138_ with
            | zero =>
                intro x2 x3 x4 σ hf138_ H138_ locs138_ ls138_ Z138_ hl138_
                exact zNone hf138_
            | succ k138_ ih138_ =>
                intro x2 x3 x4 σ hf138_ H138_ locs138_ ls138_ Z138_ hl138_
                replace hf138_ : B_X7_check_138 a1 (L_X7_check_138 a1 k138_) x2 x3 x4 σ = some (r0, σf) := hf138_
                unfold B_X7_check_138 at hf138_
                have b173_ : ∀ (x2 : Int32) (x3 : Int32) (x4 : Int32) (σ : zg_S), B_X7_check_173 a1 x2 x3 x4 σ = some (r0, σf) → ∀ (H : Heap) (locs : List Loc) (ls : Array Slot), zz_S D V A s (zg_W ML ad cA σ) (zg_T ML cA) H locs → lv_has ls 5 [(2, .int x2), (3, .int x3), (4, .int x4)] → W p l e (headSpec wsX7_check { frames := 6, cells := 0, slots := 0, locals := 134 }).room s m (List.toArray [.ref (ad 0), .int a1]) below meth c H locs 0 0 (MQ below (va_Qi (fun r (_ : Unit) => r = r0) (fun _ t => zz_B D A (zg_W ML ad cA σf) (zg_T ML cA) t) A) (List.toArray [.ref (ad 0), .int a1]) s 0 0 A) (F0 m 173 ls []) := by
                  intro x2 x3 x4 σ hf173_ H173_ locs173_ ls173_ Z173_ hl173_
                  unfold B_X7_check_173 at hf173_
                  have b189_ : ∀ (x4 : Int32) (σ : zg_S), B_X7_check_189 a1 x4 σ = some (r0, σf) → ∀ (H : Heap) (locs : List Loc) (ls : Array Slot), zz_S D V A s (zg_W ML ad cA σ) (zg_T ML cA) H locs → lv_has ls 5 [(4, .int x4)] → W p l e (headSpec wsX7_check { frames := 6, cells := 0, slots := 0, locals := 134 }).room s m (List.toArray [.ref (ad 0), .int a1]) below meth c H locs 0 0 (MQ below (va_Qi (fun r (_ : Unit) => r = r0) (fun _ t => zz_B D A (zg_W ML ad cA σf) (zg_T ML cA) t) A) (List.toArray [.ref (ad 0), .int a1]) s 0 0 A) (F0 m 189 ls []) := by
                    intro x4 σ hf189_ H189_ locs189_ ls189_ Z189_ hl189_
                    unfold B_X7_check_189 at hf189_
                    refine lv_iconst (v := 1) hx hb dX7_check_189 (by decide) ?_
                    refine lv_iload hx hb dX7_check_190 (lv_at hl189_ 0 rfl) ?_
                    refine lv_iadd hx hb dX7_check_192 ?_
                    exact zy_iret X hr hlk Z189_ (zEnd hf189_) dX7_check_193
                  refine lv_iload hx hb dX7_check_173 (lv_at hl173_ 2 rfl) ?_
                  refine lv_iload_n hx hb dX7_check_175 rfl (lv_at hl173_ 0 rfl) ?_
                  refine lv_icmp_ne (tgt := 189) hx hb dX7_check_176 (by decide) (fun b1 => ?_) (fun b1 => ?_)
                  · have hf2 := zNot hf173_ b1
                    clear hf173_
                    exact b189_ x4 σ hf2 _ _ _ Z173_ (lv_sub hl173_ [2] rfl)
                  · have hf3 := zYes hf173_ b1
                    clear hf173_
                    refine lv_iload hx hb dX7_check_179 (lv_at hl173_ 2 rfl) ?_
                    refine lv_iload_n hx hb dX7_check_181 rfl (lv_at hl173_ 1 rfl) ?_
                    refine lv_icmp_ne (tgt := 189) hx hb dX7_check_182 (by decide) (fun b4 => ?_) (fun b4 => ?_)
                    · have hf5 := zNot hf3 b4
                      clear hf3
                      exact b189_ x4 σ hf5 _ _ _ Z173_ (lv_sub hl173_ [2] rfl)
                    · have hf6 := zYes hf3 b4
                      clear hf3
                      refine lv_iconst (v := 0) hx hb dX7_check_185 (by decide) ?_
                      refine lv_goto (tgt := 193) hx hb dX7_check_186 (by decide) ?_
                      exact zy_iret X hr hlk Z173_ (zEnd hf6) dX7_check_193
                refine lv_iload hx hb dX7_check_138 (lv_at hl138_ 3 rfl) ?_
                refine lv_iload_n hx hb dX7_check_140 rfl (lv_at hl138_ 1 rfl) ?_
                refine lv_icmp_ge (tgt := 173) hx hb dX7_check_141 (by decide) (fun b7 => ?_) (fun b7 => ?_)
                · have hf8 := zYes hf138_ b7
                  clear hf138_
                  exact b173_ x2 x3 x4 σ hf8 _ _ _ Z138_ (lv_sub hl138_ [1, 2, 3] rfl)
                · have hf9 := zNot hf138_ b7
                  clear hf138_
                  refine lv_iload hx hb dX7_check_144 (lv_at hl138_ 3 rfl) ?_
                  refine lv_iload_n hx hb dX7_check_146 rfl (lv_at hl138_ 2 rfl) ?_
                  refine lv_icmp_ge (tgt := 173) hx hb dX7_check_147 (by decide) (fun b10 => ?_) (fun b10 => ?_)
                  · have hf11 := zYes hf9 b10
                    clear hf9
                    exact b173_ x2 x3 x4 σ hf11 _ _ _ Z138_ (lv_sub hl138_ [1, 2, 3] rfl)
                  · have hf12 := zNot hf9 b10
                    clear hf9
                    refine lv_aload_n hx hb dX7_check_150 rfl (lv_at hl138_ 0 rfl) ?_
                    refine zy_get (v := .ref (ad 17)) X Z138_ mL_ok mk_0 rfl rfl (fun w h => List.mem_cons_of_mem _ (List.mem_append_right _ h)) 28 rfl (zz_m 10 rfl) rfl dX7_check_151 ?_
                    refine lv_iload hx hb dX7_check_154 (lv_at hl138_ 3 rfl) ?_
                    obtain ⟨⟨i13, j14⟩, hf15⟩ := zG hf12
                    clear hf12
                    refine zy_ild X Z138_ mL_ok mk_17 ml_17 i13 dX7_check_156 ?_
                    refine lv_aload_n hx hb dX7_check_157 rfl (lv_at hl138_ 0 rfl) ?_
                    refine zy_get (v := .ref (ad 18)) X Z138_ mL_ok mk_0 rfl rfl (fun w h => List.mem_cons_of_mem _ (List.mem_append_right _ h)) 30 rfl (zz_m 9 rfl) rfl dX7_check_158 ?_
                    refine lv_iload hx hb dX7_check_161 (lv_at hl138_ 3 rfl) ?_
                    refine zy_ild X Z138_ mL_ok mk_18 ml_18 i13 dX7_check_163 ?_
                    refine lv_icmp_ne (tgt := 173) hx hb dX7_check_164 (by decide) (fun b16 => ?_) (fun b16 => ?_)
                    · have hf17 := zNot hf15 b16
                      clear hf15
                      exact b173_ x2 x3 x4 σ hf17 _ _ _ Z138_ (lv_sub hl138_ [1, 2, 3] rfl)
                    · have hf18 := zYes hf15 b16
                      clear hf15
                      refine lv_iinc (v := (x4 + 1)) (lv' := [(4, .int (x4 + 1)), (0, .ref (ad 0)), (2, .int x2), (3, .int x3)]) hx hb dX7_check_167 hl138_ (k := 3) rfl rfl (by decide) rfl (fun ls20 hl19 => ?_)
                      clear hl138_
                      refine lv_goto (tgt := 138) hx hb dX7_check_170 (by decide) ?_
                      exact ih138_ x2 x3 (x4 + 1) σ hf18 _ _ _ Z138_ (lv_sub hl19 [1, 2, 3, 0] rfl)
          refine lv_aload_n hx hb dX7_check_123 rfl (lv_at hl123_ 0 rfl) ?_
          refine lv_aload_n hx hb dX7_check_124 rfl (lv_at hl123_ 0 rfl) ?_
          refine zy_get (v := .ref (ad 3)) X Z123_ mL_ok mk_0 rfl rfl (fun w h => List.mem_cons_of_mem _ (List.mem_append_right _ h)) 2 rfl (zz_m 7 rfl) rfl dX7_check_125 ?_
          refine lv_aload_n hx hb dX7_check_128 rfl (lv_at hl123_ 0 rfl) ?_
          refine zy_get (v := .ref (ad 1)) X Z123_ mL_ok mk_0 rfl rfl (fun w h => List.mem_cons_of_mem _ (List.mem_append_right _ h)) 0 rfl (zz_m 6 rfl) rfl dX7_check_129 ?_
          obtain ⟨r21, σ22, hc23, hf24⟩ := zBd hf123_
          clear hf123_
          refine zy_cv (WS1 := zg_W ML ad cA σ22) (TYS1 := zg_T ML cA) Z123_ (va_runV (As := [.ref (ad 3), .ref (ad 1)]) (rest := []) X (c_X7_setAside l D V ad cA 3 1 mk_3 mk_1 σ r21 σ22 hc23 H123_.size) (cwV 2 hts gX7_check_X7_setAside rfl rfl rfl ⟨rfl, zh_X7_setAside⟩ ⟨Nat.le_of_ble_eq_true rfl, Nat.le_of_ble_eq_true rfl⟩) (zy_pV (ci := 7) Z123_ mL_ok mk_0 rfl rfl) rfl rfl hl123_.1 rfl (lv_room (Nat.le_of_ble_eq_true rfl)) dX7_check_132 ⟨Nat.le_of_ble_eq_true rfl, Nat.le_of_ble_eq_true rfl⟩) (fun H25 lo26 Z27 => ?_)
          clear Z123_ hc23
          refine lv_iconst (v := 0) hx hb dX7_check_135 (by decide) ?_
          refine lv_istore (lv' := [(4, .int 0), (0, .ref (ad 0)), (2, .int x2), (3, .int x3)]) hx hb dX7_check_136 hl123_ (by decide) rfl (fun ls29 hl28 => ?_)
          clear hl123_
          exact b138_ zfu x2 x3 0 σ22 hf24 _ _ _ Z27 (lv_sub hl28 [1, 2, 3, 0] rfl)
        refine lv_iload hx hb dX7_check_65 (lv_at hl65_ 4 rfl) ?_
        refine lv_iload_n hx hb dX7_check_67 rfl (lv_at hl65_ 1 rfl) ?_
        refine lv_icmp_ge (tgt := 123) hx hb dX7_check_68 (by decide) (fun b30 => ?_) (fun b30 => ?_)
        · have hf31 := zYes hf65_ b30
          clear hf65_
          exact b123_ x2 x3 σ hf31 _ _ _ Z65_ (lv_sub hl65_ [0, 2, 3] rfl)
        · have hf32 := zNot hf65_ b30
          clear hf65_
          refine lv_aload_n hx hb dX7_check_71 rfl (lv_at hl65_ 0 rfl) ?_
          refine zy_get (v := .ref (ad 1)) X Z65_ mL_ok mk_0 rfl rfl (fun w h => List.mem_cons_of_mem _ (List.mem_append_right _ h)) 0 rfl (zz_m 6 rfl) rfl dX7_check_72 ?_
          refine lv_iconst (v := 2) hx hb dX7_check_75 (by decide) ?_
          refine zy_ild X Z65_ mL_ok mk_1 ml_1 (zz_in 2 3047 rfl) dX7_check_76 ?_
          refine zz_v (v := σ 1 2) rfl ?_
          refine lv_sipush (v := 9999) hx hb dX7_check_77 (by decide) ?_
          refine lv_icmp_ge (tgt := 123) hx hb dX7_check_80 (by decide) (fun b33 => ?_) (fun b33 => ?_)
          · have hf34 := zYes hf32 b33
            clear hf32
            exact b123_ x2 x3 σ hf34 _ _ _ Z65_ (lv_sub hl65_ [0, 2, 3] rfl)
          · have hf35 := zNot hf32 b33
            clear hf32
            refine lv_aload_n hx hb dX7_check_83 rfl (lv_at hl65_ 0 rfl) ?_
            obtain ⟨r36, σ37, hc38, hf39⟩ := zBd hf35
            clear hf35
            refine zy_cv (WS1 := zg_W ML ad cA σ37) (TYS1 := zg_T ML cA) Z65_ (va_runV (As := []) (rest := []) X (c_X7_goesOn l D V ad cA  σ r36 σ37 hc38 H65_.size) (cwV 0 hts gX7_check_X7_goesOn rfl rfl rfl ⟨rfl, zh_X7_goesOn⟩ ⟨Nat.le_of_ble_eq_true rfl, Nat.le_of_ble_eq_true rfl⟩) (zy_pV (ci := 7) Z65_ mL_ok mk_0 rfl rfl) rfl rfl hl65_.1 rfl (lv_room (Nat.le_of_ble_eq_true rfl)) dX7_check_84 ⟨Nat.le_of_ble_eq_true rfl, Nat.le_of_ble_eq_true rfl⟩) (fun H40 lo41 Z42 => ?_)
            clear Z65_ hc38
            refine lv_aload_n hx hb dX7_check_87 rfl (lv_at hl65_ 0 rfl) ?_
            refine zy_get (v := .ref (ad 18)) X Z42 mL_ok mk_0 rfl rfl (fun w h => List.mem_cons_of_mem _ (List.mem_append_right _ h)) 30 rfl (zz_m 9 rfl) rfl dX7_check_88 ?_
            refine lv_iload_n hx hb dX7_check_91 rfl (lv_at hl65_ 3 rfl) ?_
            refine lv_aload_n hx hb dX7_check_92 rfl (lv_at hl65_ 0 rfl) ?_
            refine zy_get (v := .ref (ad 1)) X Z42 mL_ok mk_0 rfl rfl (fun w h => List.mem_cons_of_mem _ (List.mem_append_right _ h)) 0 rfl (zz_m 6 rfl) rfl dX7_check_93 ?_
            refine lv_iconst (v := 4) hx hb dX7_check_96 (by decide) ?_
            refine zy_ild X Z42 mL_ok mk_1 ml_1 (zz_in 4 3047 rfl) dX7_check_97 ?_
            refine zz_v (v := σ37 1 4) rfl ?_
            obtain ⟨⟨i43, j44⟩, hf45⟩ := zG hf39
            clear hf39
            obtain ⟨σ46, es47, hf48⟩ := zLet hf45
            clear hf45
            refine zy_ist (σ' := σ46) X Z42 mL_ok mk_18 ml_18 i43 es47 dX7_check_98 (fun H49 lo50 Z51 => ?_)
            clear Z42 es47
            refine lv_aload_n hx hb dX7_check_99 rfl (lv_at hl65_ 0 rfl) ?_
            refine zy_get (v := .ref (ad 18)) X Z51 mL_ok mk_0 rfl rfl (fun w h => List.mem_cons_of_mem _ (List.mem_append_right _ h)) 30 rfl (zz_m 9 rfl) rfl dX7_check_100 ?_
            refine lv_iload_n hx hb dX7_check_103 rfl (lv_at hl65_ 3 rfl) ?_
            refine lv_iconst (v := 1) hx hb dX7_check_104 (by decide) ?_
            refine lv_iadd hx hb dX7_check_105 ?_
            refine lv_aload_n hx hb dX7_check_106 rfl (lv_at hl65_ 0 rfl) ?_
            refine zy_get (v := .ref (ad 1)) X Z51 mL_ok mk_0 rfl rfl (fun w h => List.mem_cons_of_mem _ (List.mem_append_right _ h)) 0 rfl (zz_m 6 rfl) rfl dX7_check_107 ?_
            refine lv_bipush (v := 7) hx hb dX7_check_110 (by decide) ?_
            refine zy_ild X Z51 mL_ok mk_1 ml_1 (zz_in 7 3047 rfl) dX7_check_112 ?_
            refine zz_v (v := σ46 1 7) rfl ?_
            obtain ⟨⟨i52, j53⟩, hf54⟩ := zG hf48
            clear hf48
            obtain ⟨σ55, es56, hf57⟩ := zLet hf54
            clear hf54
            refine zy_ist (σ' := σ55) X Z51 mL_ok mk_18 ml_18 i52 es56 dX7_check_113 (fun H58 lo59 Z60 => ?_)
            clear Z51 es56
            refine lv_iinc (v := (x3 + 2)) (lv' := [(3, .int (x3 + 2)), (0, .ref (ad 0)), (1, .int a1), (2, .int x2), (4, .int x4)]) hx hb dX7_check_114 hl65_ (k := 3) rfl rfl (by decide) rfl (fun ls62 hl61 => ?_)
            clear hl65_
            refine lv_iinc (v := (x4 + 1)) (lv' := [(4, .int (x4 + 1)), (3, .int (x3 + 2)), (0, .ref (ad 0)), (1, .int a1), (2, .int x2)]) hx hb dX7_check_117 hl61 (k := 4) rfl rfl (by decide) rfl (fun ls64 hl63 => ?_)
            clear hl61
            refine lv_goto (tgt := 65) hx hb dX7_check_120 (by decide) ?_
            exact ih65_ x2 (x3 + 2) (x4 + 1) σ55 hf57 _ _ _ Z60 (lv_sub hl63 [2, 3, 4, 1, 0] rfl)
  refine lv_aload_n hx hb dX7_check_0 rfl (lv_at hl 0 rfl) ?_
  refine zy_get (v := .int (σ 0 29)) X Z mL_ok mk_0 rfl rfl (fun w h => List.mem_cons_of_mem _ (List.mem_append_right _ h)) 29 rfl (zz_m 1 rfl) rfl dX7_check_1 ?_
  refine lv_istore_n (lv' := [(2, .int (σ 0 29)), (0, .ref (ad 0)), (1, .int a1)]) hx hb dX7_check_4 rfl hl (by decide) rfl (fun ls66 hl65 => ?_)
  clear hl
  refine lv_aload_n hx hb dX7_check_5 rfl (lv_at hl65 1 rfl) ?_
  refine lv_iconst (v := 0) hx hb dX7_check_6 (by decide) ?_
  obtain ⟨σ67, es68, hf69⟩ := zLet hf
  clear hf
  refine zy_put (v := 0) (σ' := σ67) X Z mL_ok mk_0 rfl rfl (fun w h => List.mem_cons_of_mem _ (List.mem_append_right _ h)) tyX7 tyX7_ok nmX7 29 rfl (zz_m 1 rfl) rfl rfl rfl (fun _ => rfl) (fun _ => rfl) es68 dX7_check_7 (fun H70 lo71 Z72 => ?_)
  clear Z es68
  refine lv_iload_n hx hb dX7_check_10 rfl (lv_at hl65 2 rfl) ?_
  refine lv_i2l (v := Int32.toInt64 a1) hx hb dX7_check_11 rfl ?_
  refine lv_lconst (v := 1) hx hb dX7_check_12 (by decide) ?_
  refine zz_vl (v := Int32.toInt64 1) (by decide) ?_
  refine lv_ldc2 (v := 30) hx hb hown (hts _ (zz_m 2 rfl)) dX7_check_13 ?_
  refine zz_vl (v := Int32.toInt64 30) (by decide) ?_
  obtain ⟨r73, σ74, hc75, hf76⟩ := zBd hf69
  clear hf69
  refine zy_ci (r0 := r73) (WS1 := zg_W ML ad cA σ74) (TYS1 := zg_T ML cA) Z72 (va_runS (As := [.long (Int32.toInt64 a1), .long (Int32.toInt64 1), .long (Int32.toInt64 30)]) (rest := []) X (c_X7_isIn l D V ad cA (Int32.toInt64 a1) (Int32.toInt64 1) (Int32.toInt64 30) σ67 r73 σ74 hc75 H70.size) (va_cwS 3 hts gX7_check_X7_isIn rfl rfl rfl zh_X7_isIn ⟨Nat.le_of_ble_eq_true rfl, Nat.le_of_ble_eq_true rfl⟩) (zz_pS Z72) rfl rfl hl65.1 rfl (lv_room (Nat.le_of_ble_eq_true rfl)) dX7_check_16 ⟨Nat.le_of_ble_eq_true rfl, Nat.le_of_ble_eq_true rfl⟩) (fun H77 lo78 Z79 => ?_)
  clear Z72 hc75
  refine lv_if_ne (tgt := 25) hx hb dX7_check_19 (by decide) (fun b80 => ?_) (fun b80 => ?_)
  · have hf81 := zNot hf76 b80
    clear hf76
    refine lv_aload_n hx hb dX7_check_25 rfl (lv_at hl65 1 rfl) ?_
    refine zy_get (v := .int (σ74 0 3)) X Z79 mL_ok mk_0 rfl rfl (fun w h => List.mem_cons_of_mem _ (List.mem_append_right _ h)) 3 rfl (zz_m 4 rfl) rfl dX7_check_26 ?_
    refine lv_if_ne (tgt := 36) hx hb dX7_check_29 (by decide) (fun b82 => ?_) (fun b82 => ?_)
    · have hf83 := zNot hf81 b82
      clear hf81
      refine lv_aload_n hx hb dX7_check_36 rfl (lv_at hl65 1 rfl) ?_
      refine lv_aload_n hx hb dX7_check_37 rfl (lv_at hl65 1 rfl) ?_
      refine zy_get (v := .ref (ad 1)) X Z79 mL_ok mk_0 rfl rfl (fun w h => List.mem_cons_of_mem _ (List.mem_append_right _ h)) 0 rfl (zz_m 6 rfl) rfl dX7_check_38 ?_
      refine lv_aload_n hx hb dX7_check_41 rfl (lv_at hl65 1 rfl) ?_
      refine zy_get (v := .ref (ad 3)) X Z79 mL_ok mk_0 rfl rfl (fun w h => List.mem_cons_of_mem _ (List.mem_append_right _ h)) 2 rfl (zz_m 7 rfl) rfl dX7_check_42 ?_
      obtain ⟨r84, σ85, hc86, hf87⟩ := zBd hf83
      clear hf83
      refine zy_cv (WS1 := zg_W ML ad cA σ85) (TYS1 := zg_T ML cA) Z79 (va_runV (As := [.ref (ad 1), .ref (ad 3)]) (rest := []) X (c_X7_setAside l D V ad cA 1 3 mk_1 mk_3 σ74 r84 σ85 hc86 H77.size) (cwV 2 hts gX7_check_X7_setAside rfl rfl rfl ⟨rfl, zh_X7_setAside⟩ ⟨Nat.le_of_ble_eq_true rfl, Nat.le_of_ble_eq_true rfl⟩) (zy_pV (ci := 7) Z79 mL_ok mk_0 rfl rfl) rfl rfl hl65.1 rfl (lv_room (Nat.le_of_ble_eq_true rfl)) dX7_check_45 ⟨Nat.le_of_ble_eq_true rfl, Nat.le_of_ble_eq_true rfl⟩) (fun H88 lo89 Z90 => ?_)
      clear Z79 hc86
      refine lv_aload_n hx hb dX7_check_48 rfl (lv_at hl65 1 rfl) ?_
      refine lv_aload_n hx hb dX7_check_49 rfl (lv_at hl65 1 rfl) ?_
      refine zy_get (v := .ref (ad 2)) X Z90 mL_ok mk_0 rfl rfl (fun w h => List.mem_cons_of_mem _ (List.mem_append_right _ h)) 1 rfl (zz_m 8 rfl) rfl dX7_check_50 ?_
      refine lv_aload_n hx hb dX7_check_53 rfl (lv_at hl65 1 rfl) ?_
      refine zy_get (v := .ref (ad 1)) X Z90 mL_ok mk_0 rfl rfl (fun w h => List.mem_cons_of_mem _ (List.mem_append_right _ h)) 0 rfl (zz_m 6 rfl) rfl dX7_check_54 ?_
      obtain ⟨r91, σ92, hc93, hf94⟩ := zBd hf87
      clear hf87
      refine zy_cv (WS1 := zg_W ML ad cA σ92) (TYS1 := zg_T ML cA) Z90 (va_runV (As := [.ref (ad 2), .ref (ad 1)]) (rest := []) X (c_X7_setAside l D V ad cA 2 1 mk_2 mk_1 σ85 r91 σ92 hc93 H88.size) (cwV 2 hts gX7_check_X7_setAside rfl rfl rfl ⟨rfl, zh_X7_setAside⟩ ⟨Nat.le_of_ble_eq_true rfl, Nat.le_of_ble_eq_true rfl⟩) (zy_pV (ci := 7) Z90 mL_ok mk_0 rfl rfl) rfl rfl hl65.1 rfl (lv_room (Nat.le_of_ble_eq_true rfl)) dX7_check_57 ⟨Nat.le_of_ble_eq_true rfl, Nat.le_of_ble_eq_true rfl⟩) (fun H95 lo96 Z97 => ?_)
      clear Z90 hc93
      refine lv_iconst (v := 0) hx hb dX7_check_60 (by decide) ?_
      refine lv_istore_n (lv' := [(3, .int 0), (2, .int (σ 0 29)), (0, .ref (ad 0)), (1, .int a1)]) hx hb dX7_check_61 rfl hl65 (by decide) rfl (fun ls99 hl98 => ?_)
      clear hl65
      refine lv_iconst (v := 0) hx hb dX7_check_62 (by decide) ?_
      refine lv_istore (lv' := [(4, .int 0), (3, .int 0), (2, .int (σ 0 29)), (0, .ref (ad 0)), (1, .int a1)]) hx hb dX7_check_63 hl98 (by decide) rfl (fun ls101 hl100 => ?_)
      clear hl98
      exact b65_ zfu (σ 0 29) 0 0 σ92 hf94 _ _ _ Z97 (lv_sub hl100 [3, 4, 2, 1, 0] rfl)
    · have hf102 := zYes hf81 b82
      clear hf81
      refine lv_ldcw (v := (-1000000002)) hx hb hown (hts _ (zz_m 5 rfl)) dX7_check_32 ?_
      exact zy_iret X hr hlk Z79 (zEnd hf102) dX7_check_35
  · have hf103 := zYes hf76 b80
    clear hf76
    refine lv_ldc (v := (-1000000001)) hx hb hown (hts _ (zz_m 3 rfl)) dX7_check_22 ?_
    exact zy_iret X hr hlk Z79 (zEnd hf103) dX7_check_24
def B_X7_firstShaded_15 (y0 : Int32) (σ : zg_S) : Option (Int32 × zg_S) := (if 12 ≤ y0 then some ((-1), σ) else zbd (f_X7_shadeFrom σ) (fun (r6 : Int32) (σ7 : zg_S) => (if (r6 + (σ7 1 8)) ≤ y0 then some ((-1), σ7) else some (y0, σ7))))
def f_X7_firstShaded  (σ : zg_S) : Option (Int32 × zg_S) := zbd (f_X7_shadeFrom σ) (fun (r16 : Int32) (σ17 : zg_S) => (if 0 ≤ r16 then zbd (f_X7_shadeFrom σ17) (fun (r25 : Int32) (σ26 : zg_S) => B_X7_firstShaded_15 r25 σ26) else B_X7_firstShaded_15 0 σ17))
set_option maxHeartbeats 4000000 in
set_option maxRecDepth 100000 in
theorem c_X7_firstShaded (l : Launch) (D : va_G) (V : zz_V) (ad : Nat → Nat) (cA : Nat → ClassId)   (σ : zg_S) (r0 : Int32) (σf : zg_S) (hf : f_X7_firstShaded  σ = some (r0, σf)) : zM_I l yX7_firstShaded wsX7_firstShaded 1 20 D V ML ad cA [.ref (ad 0)] σ r0 σf := by
  intro sz
  refine Met.ofW (cc := cX7_firstShaded) (maxL := 2) (ret := (some .int)) (by decide) rfl ?_
  intro p e s m args below meth c s₁ B hml hv
  obtain ⟨rfl, hC⟩ := hv
  have hx := B.exec
  have hb := B.bytes
  have hr := B.returns
  have hts := atoms_spec (ws := wsX7_firstShaded) B.pre
  have hown : s.vm.findClass RX7 = some m.cls := findClass_of_methodNamed B.named
  have hlk := B.notSynchronized
  have X : CallFix p m c cX7_firstShaded 2 s _ wsX7_firstShaded RX7 := ⟨hx, hb, hml, hown, hts⟩
  have Z := zz_enter hC
  generalize va_A (zg_W ML ad cA σ) sz = A at Z ⊢
  have hl := lv_entry ([.ref (ad 0)]) (n := 2) (Nat.le_of_ble_eq_true rfl)
  rw [lg_entry_eq]
  generalize (lg_sl ([.ref (ad 0)]) ++ List.replicate (2 - (lg_sl ([.ref (ad 0)])).length) Slot.unset).toArray = ls at hl ⊢
  have hl : lv_has ls 2 [(0, .ref (ad 0))] := hl
  unfold f_X7_firstShaded at hf
  have b15_ : ∀ (y0 : Int32) (σ : zg_S), B_X7_firstShaded_15 y0 σ = some (r0, σf) → ∀ (H : Heap) (locs : List Loc) (ls : Array Slot), zz_S D V A s (zg_W ML ad cA σ) (zg_T ML cA) H locs → lv_has ls 2 [(0, .ref (ad 0))] → W p l e (headSpec wsX7_firstShaded { frames := 1, cells := 0, slots := 0, locals := 20 }).room s m (List.toArray [.ref (ad 0)]) below meth c H locs 0 0 (MQ below (va_Qi (fun r (_ : Unit) => r = r0) (fun _ t => zz_B D A (zg_W ML ad cA σf) (zg_T ML cA) t) A) (List.toArray [.ref (ad 0)]) s 0 0 A) (F0 m 15 ls [.int y0]) := by
    intro y0 σ hf15_ H15_ locs15_ ls15_ Z15_ hl15_
    unfold B_X7_firstShaded_15 at hf15_
    refine lv_istore_n (lv' := [(1, .int y0), (0, .ref (ad 0))]) hx hb dX7_firstShaded_15 rfl hl15_ (by decide) rfl (fun ls2 hl1 => ?_)
    clear hl15_
    refine lv_iload_n hx hb dX7_firstShaded_16 rfl (lv_at hl1 0 rfl) ?_
    refine lv_bipush (v := 12) hx hb dX7_firstShaded_17 (by decide) ?_
    refine lv_icmp_ge (tgt := 42) hx hb dX7_firstShaded_19 (by decide) (fun b3 => ?_) (fun b3 => ?_)
    · have hf4 := zYes hf15_ b3
      clear hf15_
      refine lv_iconst (v := (-1)) hx hb dX7_firstShaded_42 (by decide) ?_
      exact zy_iret X hr hlk Z15_ (zEnd hf4) dX7_firstShaded_43
    · have hf5 := zNot hf15_ b3
      clear hf15_
      refine lv_iload_n hx hb dX7_firstShaded_22 rfl (lv_at hl1 0 rfl) ?_
      refine lv_aload_n hx hb dX7_firstShaded_23 rfl (lv_at hl1 1 rfl) ?_
      obtain ⟨r6, σ7, hc8, hf9⟩ := zBd hf5
      clear hf5
      refine zy_ci (r0 := r6) (WS1 := zg_W ML ad cA σ7) (TYS1 := zg_T ML cA) Z15_ (va_runV (As := []) (rest := [.int y0]) X (c_X7_shadeFrom l D V ad cA  σ r6 σ7 hc8 H15_.size) (cwV 0 hts gX7_firstShaded_X7_shadeFrom rfl rfl rfl ⟨rfl, zh_X7_shadeFrom⟩ ⟨Nat.le_of_ble_eq_true rfl, Nat.le_of_ble_eq_true rfl⟩) (zy_pV (ci := 7) Z15_ mL_ok mk_0 rfl rfl) rfl rfl hl1.1 rfl (lv_room (Nat.le_of_ble_eq_true rfl)) dX7_firstShaded_24 ⟨Nat.le_of_ble_eq_true rfl, Nat.le_of_ble_eq_true rfl⟩) (fun H10 lo11 Z12 => ?_)
      clear Z15_ hc8
      refine lv_aload_n hx hb dX7_firstShaded_27 rfl (lv_at hl1 1 rfl) ?_
      refine zy_get (v := .ref (ad 1)) X Z12 mL_ok mk_0 rfl rfl (fun w h => List.mem_cons_of_mem _ (List.mem_append_right _ h)) 0 rfl (zz_m 1 rfl) rfl dX7_firstShaded_28 ?_
      refine lv_bipush (v := 8) hx hb dX7_firstShaded_31 (by decide) ?_
      refine zy_ild X Z12 mL_ok mk_1 ml_1 (zz_in 8 3047 rfl) dX7_firstShaded_33 ?_
      refine zz_v (v := σ7 1 8) rfl ?_
      refine lv_iadd hx hb dX7_firstShaded_34 ?_
      refine lv_icmp_ge (tgt := 42) hx hb dX7_firstShaded_35 (by decide) (fun b13 => ?_) (fun b13 => ?_)
      · have hf14 := zYes hf9 b13
        clear hf9
        refine lv_iconst (v := (-1)) hx hb dX7_firstShaded_42 (by decide) ?_
        exact zy_iret X hr hlk Z12 (zEnd hf14) dX7_firstShaded_43
      · have hf15 := zNot hf9 b13
        clear hf9
        refine lv_iload_n hx hb dX7_firstShaded_38 rfl (lv_at hl1 0 rfl) ?_
        refine lv_goto (tgt := 43) hx hb dX7_firstShaded_39 (by decide) ?_
        exact zy_iret X hr hlk Z12 (zEnd hf15) dX7_firstShaded_43
  refine lv_aload_n hx hb dX7_firstShaded_0 rfl (lv_at hl 0 rfl) ?_
  obtain ⟨r16, σ17, hc18, hf19⟩ := zBd hf
  clear hf
  refine zy_ci (r0 := r16) (WS1 := zg_W ML ad cA σ17) (TYS1 := zg_T ML cA) Z (va_runV (As := []) (rest := []) X (c_X7_shadeFrom l D V ad cA  σ r16 σ17 hc18 s.heap.size) (cwV 0 hts gX7_firstShaded_X7_shadeFrom rfl rfl rfl ⟨rfl, zh_X7_shadeFrom⟩ ⟨Nat.le_of_ble_eq_true rfl, Nat.le_of_ble_eq_true rfl⟩) (zy_pV (ci := 7) Z mL_ok mk_0 rfl rfl) rfl rfl hl.1 rfl (lv_room (Nat.le_of_ble_eq_true rfl)) dX7_firstShaded_1 ⟨Nat.le_of_ble_eq_true rfl, Nat.le_of_ble_eq_true rfl⟩) (fun H20 lo21 Z22 => ?_)
  clear Z hc18
  refine lv_if_ge (tgt := 11) hx hb dX7_firstShaded_4 (by decide) (fun b23 => ?_) (fun b23 => ?_)
  · have hf24 := zYes hf19 b23
    clear hf19
    refine lv_aload_n hx hb dX7_firstShaded_11 rfl (lv_at hl 0 rfl) ?_
    obtain ⟨r25, σ26, hc27, hf28⟩ := zBd hf24
    clear hf24
    refine zy_ci (r0 := r25) (WS1 := zg_W ML ad cA σ26) (TYS1 := zg_T ML cA) Z22 (va_runV (As := []) (rest := []) X (c_X7_shadeFrom l D V ad cA  σ17 r25 σ26 hc27 H20.size) (cwV 0 hts gX7_firstShaded_X7_shadeFrom rfl rfl rfl ⟨rfl, zh_X7_shadeFrom⟩ ⟨Nat.le_of_ble_eq_true rfl, Nat.le_of_ble_eq_true rfl⟩) (zy_pV (ci := 7) Z22 mL_ok mk_0 rfl rfl) rfl rfl hl.1 rfl (lv_room (Nat.le_of_ble_eq_true rfl)) dX7_firstShaded_12 ⟨Nat.le_of_ble_eq_true rfl, Nat.le_of_ble_eq_true rfl⟩) (fun H29 lo30 Z31 => ?_)
    clear Z22 hc27
    exact b15_ r25 σ26 hf28 _ _ _ Z31 (lv_sub hl [0] rfl)
  · have hf32 := zNot hf19 b23
    clear hf19
    refine lv_iconst (v := 0) hx hb dX7_firstShaded_7 (by decide) ?_
    refine lv_goto (tgt := 15) hx hb dX7_firstShaded_8 (by decide) ?_
    exact b15_ 0 σ17 hf32 _ _ _ Z22 (lv_sub hl [0] rfl)
def f_X7_orNone (a0 : Int32) (σ : zg_S) : Option (Int32 × zg_S) := (if 0 ≤ a0 then some (a0, σ) else some ((-1000000005), σ))
set_option maxHeartbeats 4000000 in
set_option maxRecDepth 100000 in
theorem c_X7_orNone (l : Launch) (D : va_G) (V : zz_V) (ad : Nat → Nat) (cA : Nat → ClassId) (a0 : Int32)  (σ : zg_S) (r0 : Int32) (σf : zg_S) (hf : f_X7_orNone a0 σ = some (r0, σf)) : zM_I l yX7_orNone wsX7_orNone 0 0 D V ML ad cA [.int a0] σ r0 σf := by
  intro sz
  refine Met.ofW (cc := cX7_orNone) (maxL := 1) (ret := (some .int)) (by decide) rfl ?_
  intro p e s m args below meth c s₁ B hml hv
  obtain ⟨rfl, hC⟩ := hv
  have hx := B.exec
  have hb := B.bytes
  have hr := B.returns
  have hts := atoms_spec (ws := wsX7_orNone) B.pre
  have hown : s.vm.findClass RX7 = some m.cls := findClass_of_methodNamed B.named
  have hlk := B.notSynchronized
  have X : CallFix p m c cX7_orNone 1 s _ wsX7_orNone RX7 := ⟨hx, hb, hml, hown, hts⟩
  have Z := zz_enter hC
  generalize va_A (zg_W ML ad cA σ) sz = A at Z ⊢
  have hl := lv_entry ([.int a0]) (n := 1) (Nat.le_of_ble_eq_true rfl)
  rw [lg_entry_eq]
  generalize (lg_sl ([.int a0]) ++ List.replicate (1 - (lg_sl ([.int a0])).length) Slot.unset).toArray = ls at hl ⊢
  have hl : lv_has ls 1 [(0, .int a0)] := hl
  unfold f_X7_orNone at hf
  refine lv_iload_n hx hb dX7_orNone_0 rfl (lv_at hl 0 rfl) ?_
  refine lv_if_ge (tgt := 9) hx hb dX7_orNone_1 (by decide) (fun b1 => ?_) (fun b1 => ?_)
  · have hf2 := zYes hf b1
    clear hf
    refine lv_iload_n hx hb dX7_orNone_9 rfl (lv_at hl 0 rfl) ?_
    exact zy_iret X hr hlk Z (zEnd hf2) dX7_orNone_10
  · have hf3 := zNot hf b1
    clear hf
    refine lv_ldc (v := (-1000000005)) hx hb hown (hts _ (zz_m 1 rfl)) dX7_orNone_4 ?_
    refine lv_goto (tgt := 10) hx hb dX7_orNone_6 (by decide) ?_
    exact zy_iret X hr hlk Z (zEnd hf3) dX7_orNone_10
def B_X7_shadedSet_30 (rec4_ : Int32 → Int32 → zg_S → Option (Int32 × zg_S)) (x2 : Int32) (y0 : Int32) (y1 : Int32) (σ : zg_S) : Option (Int32 × zg_S) := rec4_ (y1 ||| y0) (x2 + 1) σ
def B_X7_shadedSet_4 (rec4_ : Int32 → Int32 → zg_S → Option (Int32 × zg_S)) (x1 : Int32) (x2 : Int32) (σ : zg_S) : Option (Int32 × zg_S) := (if (σ 1 0) ≤ x2 then some (x1, σ) else zbd (f_X7_isShaded x2 σ) (fun (r8 : Int32) (σ9 : zg_S) => (if r8 = 0 then B_X7_shadedSet_30 rec4_ x2 0 x1 σ9 else B_X7_shadedSet_30 rec4_ x2 (1 <<< (x2 &&& 31)) x1 σ9)))
def L_X7_shadedSet_4 : Nat → Int32 → Int32 → zg_S → Option (Int32 × zg_S) := zfix (fun _ _ _ => none) (B_X7_shadedSet_4)
def f_X7_shadedSet  (σ : zg_S) : Option (Int32 × zg_S) := L_X7_shadedSet_4 zfu 0 0 σ
set_option maxHeartbeats 4000000 in
set_option maxRecDepth 100000 in
theorem c_X7_shadedSet (l : Launch) (D : va_G) (V : zz_V) (ad : Nat → Nat) (cA : Nat → ClassId)   (σ : zg_S) (r0 : Int32) (σf : zg_S) (hf : f_X7_shadedSet  σ = some (r0, σf)) : zM_I l yX7_shadedSet wsX7_shadedSet 2 46 D V ML ad cA [.ref (ad 0)] σ r0 σf := by
  intro sz
  refine Met.ofW (cc := cX7_shadedSet) (maxL := 3) (ret := (some .int)) (by decide) rfl ?_
  intro p e s m args below meth c s₁ B hml hv
  obtain ⟨rfl, hC⟩ := hv
  have hx := B.exec
  have hb := B.bytes
  have hr := B.returns
  have hts := atoms_spec (ws := wsX7_shadedSet) B.pre
  have hown : s.vm.findClass RX7 = some m.cls := findClass_of_methodNamed B.named
  have hlk := B.notSynchronized
  have X : CallFix p m c cX7_shadedSet 3 s _ wsX7_shadedSet RX7 := ⟨hx, hb, hml, hown, hts⟩
  have Z := zz_enter hC
  generalize va_A (zg_W ML ad cA σ) sz = A at Z ⊢
  have hl := lv_entry ([.ref (ad 0)]) (n := 3) (Nat.le_of_ble_eq_true rfl)
  rw [lg_entry_eq]
  generalize (lg_sl ([.ref (ad 0)]) ++ List.replicate (3 - (lg_sl ([.ref (ad 0)])).length) Slot.unset).toArray = ls at hl ⊢
  have hl : lv_has ls 3 [(0, .ref (ad 0))] := hl
  unfold f_X7_shadedSet at hf
  have b4_ : ∀ (k4_ : Nat) (x1 : Int32) (x2 : Int32) (σ : zg_S), L_X7_shadedSet_4 k4_ x1 x2 σ = some (r0, σf) → ∀ (H : Heap) (locs : List Loc) (ls : Array Slot), zz_S D V A s (zg_W ML ad cA σ) (zg_T ML cA) H locs → lv_has ls 3 [(0, .ref (ad 0)), (1, .int x1), (2, .int x2)] → W p l e (headSpec wsX7_shadedSet { frames := 2, cells := 0, slots := 0, locals := 46 }).room s m (List.toArray [.ref (ad 0)]) below meth c H locs 0 0 (MQ below (va_Qi (fun r (_ : Unit) => r = r0) (fun _ t => zz_B D A (zg_W ML ad cA σf) (zg_T ML cA) t) A) (List.toArray [.ref (ad 0)]) s 0 0 A) (F0 m 4 ls []) := by
    intro k4_
    induction k4_ with
    | zero =>
        intro x1 x2 σ hf4_ H4_ locs4_ ls4_ Z4_ hl4_
        exact zNone hf4_
    | succ k4_ ih4_ =>
        intro x1 x2 σ hf4_ H4_ locs4_ ls4_ Z4_ hl4_
        replace hf4_ : B_X7_shadedSet_4 (L_X7_shadedSet_4 k4_) x1 x2 σ = some (r0, σf) := hf4_
        unfold B_X7_shadedSet_4 at hf4_
        have b30_ : ∀ (x2 : Int32) (y0 : Int32) (y1 : Int32) (σ : zg_S), B_X7_shadedSet_30 (L_X7_shadedSet_4 k4_) x2 y0 y1 σ = some (r0, σf) → ∀ (H : Heap) (locs : List Loc) (ls : Array Slot), zz_S D V A s (zg_W ML ad cA σ) (zg_T ML cA) H locs → lv_has ls 3 [(0, .ref (ad 0)), (2, .int x2)] → W p l e (headSpec wsX7_shadedSet { frames := 2, cells := 0, slots := 0, locals := 46 }).room s m (List.toArray [.ref (ad 0)]) below meth c H locs 0 0 (MQ below (va_Qi (fun r (_ : Unit) => r = r0) (fun _ t => zz_B D A (zg_W ML ad cA σf) (zg_T ML cA) t) A) (List.toArray [.ref (ad 0)]) s 0 0 A) (F0 m 30 ls [.int y0, .int y1]) := by
          intro x2 y0 y1 σ hf30_ H30_ locs30_ ls30_ Z30_ hl30_
          unfold B_X7_shadedSet_30 at hf30_
          refine lv_ior hx hb dX7_shadedSet_30 ?_
          refine lv_istore_n (lv' := [(1, .int (y1 ||| y0)), (0, .ref (ad 0)), (2, .int x2)]) hx hb dX7_shadedSet_31 rfl hl30_ (by decide) rfl (fun ls2 hl1 => ?_)
          clear hl30_
          refine lv_iinc (v := (x2 + 1)) (lv' := [(2, .int (x2 + 1)), (1, .int (y1 ||| y0)), (0, .ref (ad 0))]) hx hb dX7_shadedSet_32 hl1 (k := 2) rfl rfl (by decide) rfl (fun ls4 hl3 => ?_)
          clear hl1
          refine lv_goto (tgt := 4) hx hb dX7_shadedSet_35 (by decide) ?_
          exact ih4_ (y1 ||| y0) (x2 + 1) σ hf30_ _ _ _ Z30_ (lv_sub hl3 [2, 1, 0] rfl)
        refine lv_iload_n hx hb dX7_shadedSet_4 rfl (lv_at hl4_ 2 rfl) ?_
        refine lv_aload_n hx hb dX7_shadedSet_5 rfl (lv_at hl4_ 0 rfl) ?_
        refine zy_get (v := .ref (ad 1)) X Z4_ mL_ok mk_0 rfl rfl (fun w h => List.mem_cons_of_mem _ (List.mem_append_right _ h)) 0 rfl (zz_m 1 rfl) rfl dX7_shadedSet_6 ?_
        refine lv_iconst (v := 0) hx hb dX7_shadedSet_9 (by decide) ?_
        refine zy_ild X Z4_ mL_ok mk_1 ml_1 (zz_in 0 3047 rfl) dX7_shadedSet_10 ?_
        refine zz_v (v := σ 1 0) rfl ?_
        refine lv_icmp_ge (tgt := 38) hx hb dX7_shadedSet_11 (by decide) (fun b5 => ?_) (fun b5 => ?_)
        · have hf6 := zYes hf4_ b5
          clear hf4_
          refine lv_iload_n hx hb dX7_shadedSet_38 rfl (lv_at hl4_ 1 rfl) ?_
          exact zy_iret X hr hlk Z4_ (zEnd hf6) dX7_shadedSet_39
        · have hf7 := zNot hf4_ b5
          clear hf4_
          refine lv_iload_n hx hb dX7_shadedSet_14 rfl (lv_at hl4_ 1 rfl) ?_
          refine lv_aload_n hx hb dX7_shadedSet_15 rfl (lv_at hl4_ 0 rfl) ?_
          refine lv_iload_n hx hb dX7_shadedSet_16 rfl (lv_at hl4_ 2 rfl) ?_
          obtain ⟨r8, σ9, hc10, hf11⟩ := zBd hf7
          clear hf7
          refine zy_ci (r0 := r8) (WS1 := zg_W ML ad cA σ9) (TYS1 := zg_T ML cA) Z4_ (va_runV (As := [.int x2]) (rest := [.int x1]) X (c_X7_isShaded l D V ad cA x2 σ r8 σ9 hc10 H4_.size) (cwV 1 hts gX7_shadedSet_X7_isShaded rfl rfl rfl ⟨rfl, zh_X7_isShaded⟩ ⟨Nat.le_of_ble_eq_true rfl, Nat.le_of_ble_eq_true rfl⟩) (zy_pV (ci := 7) Z4_ mL_ok mk_0 rfl rfl) rfl rfl hl4_.1 rfl (lv_room (Nat.le_of_ble_eq_true rfl)) dX7_shadedSet_17 ⟨Nat.le_of_ble_eq_true rfl, Nat.le_of_ble_eq_true rfl⟩) (fun H12 lo13 Z14 => ?_)
          clear Z4_ hc10
          refine lv_if_eq (tgt := 29) hx hb dX7_shadedSet_20 (by decide) (fun b15 => ?_) (fun b15 => ?_)
          · have hf16 := zYes hf11 b15
            clear hf11
            refine lv_iconst (v := 0) hx hb dX7_shadedSet_29 (by decide) ?_
            exact b30_ x2 0 x1 σ9 hf16 _ _ _ Z14 (lv_sub hl4_ [0, 2] rfl)
          · have hf17 := zNot hf11 b15
            clear hf11
            refine lv_iconst (v := 1) hx hb dX7_shadedSet_23 (by decide) ?_
            refine lv_iload_n hx hb dX7_shadedSet_24 rfl (lv_at hl4_ 2 rfl) ?_
            refine lv_ishl hx hb dX7_shadedSet_25 ?_
            refine lv_goto (tgt := 30) hx hb dX7_shadedSet_26 (by decide) ?_
            exact b30_ x2 (1 <<< (x2 &&& 31)) x1 σ9 hf17 _ _ _ Z14 (lv_sub hl4_ [0, 2] rfl)
  refine lv_iconst (v := 0) hx hb dX7_shadedSet_0 (by decide) ?_
  refine lv_istore_n (lv' := [(1, .int 0), (0, .ref (ad 0))]) hx hb dX7_shadedSet_1 rfl hl (by decide) rfl (fun ls19 hl18 => ?_)
  clear hl
  refine lv_iconst (v := 0) hx hb dX7_shadedSet_2 (by decide) ?_
  refine lv_istore_n (lv' := [(2, .int 0), (1, .int 0), (0, .ref (ad 0))]) hx hb dX7_shadedSet_3 rfl hl18 (by decide) rfl (fun ls21 hl20 => ?_)
  clear hl18
  exact b4_ zfu 0 0 σ hf _ _ _ Z (lv_sub hl20 [2, 1, 0] rfl)
def B_X7_cloth_44 (a1 : Int32) (σ : zg_S) : Option (Int32 × zg_S) := (if zin (7 + a1) 3047 = true then some (σ 1 (Int32.toNatClampNeg (7 + a1)), σ) else none)
def f_X7_cloth (a1 : Int32) (σ : zg_S) : Option (Int32 × zg_S) := (if a1 = 0 then B_X7_cloth_44 a1 σ else (if a1 = 1 then B_X7_cloth_44 a1 σ else (if a1 = 2 then B_X7_cloth_44 a1 σ else (if a1 = 3 then B_X7_cloth_44 a1 σ else (if a1 = 4 then zbd (f_X7_heat σ) (fun (r18 : Int32) (σ19 : zg_S) => some (r18, σ19)) else (if a1 = 5 then zbd (f_X7_firstShaded σ) (fun (r28 : Int32) (σ29 : zg_S) => zbd (f_X7_orNone r28 σ29) (fun (r35 : Int32) (σ36 : zg_S) => some (r35, σ36))) else (if a1 = 6 then zbd (f_X7_shadedSet σ) (fun (r45 : Int32) (σ46 : zg_S) => some (r45, σ46)) else some ((-1000000001), σ))))))))
set_option maxHeartbeats 4000000 in
set_option maxRecDepth 100000 in
theorem c_X7_cloth (l : Launch) (D : va_G) (V : zz_V) (ad : Nat → Nat) (cA : Nat → ClassId) (a1 : Int32)  (σ : zg_S) (r0 : Int32) (σf : zg_S) (hf : f_X7_cloth a1 σ = some (r0, σf)) : zM_I l yX7_cloth wsX7_cloth 3 68 D V ML ad cA [.ref (ad 0), .int a1] σ r0 σf := by
  intro sz
  refine Met.ofW (cc := cX7_cloth) (maxL := 2) (ret := (some .int)) (by decide) rfl ?_
  intro p e s m args below meth c s₁ B hml hv
  obtain ⟨rfl, hC⟩ := hv
  have hx := B.exec
  have hb := B.bytes
  have hr := B.returns
  have hts := atoms_spec (ws := wsX7_cloth) B.pre
  have hown : s.vm.findClass RX7 = some m.cls := findClass_of_methodNamed B.named
  have hlk := B.notSynchronized
  have X : CallFix p m c cX7_cloth 2 s _ wsX7_cloth RX7 := ⟨hx, hb, hml, hown, hts⟩
  have Z := zz_enter hC
  generalize va_A (zg_W ML ad cA σ) sz = A at Z ⊢
  have hl := lv_entry ([.ref (ad 0), .int a1]) (n := 2) (Nat.le_of_ble_eq_true rfl)
  rw [lg_entry_eq]
  generalize (lg_sl ([.ref (ad 0), .int a1]) ++ List.replicate (2 - (lg_sl ([.ref (ad 0), .int a1])).length) Slot.unset).toArray = ls at hl ⊢
  have hl : lv_has ls 2 [(0, .ref (ad 0)), (1, .int a1)] := hl
  unfold f_X7_cloth at hf
  have b44_ : ∀ (σ : zg_S), B_X7_cloth_44 a1  σ = some (r0, σf) → ∀ (H : Heap) (locs : List Loc) (ls : Array Slot), zz_S D V A s (zg_W ML ad cA σ) (zg_T ML cA) H locs → lv_has ls 2 [(0, .ref (ad 0)), (1, .int a1)] → W p l e (headSpec wsX7_cloth { frames := 3, cells := 0, slots := 0, locals := 68 }).room s m (List.toArray [.ref (ad 0), .int a1]) below meth c H locs 0 0 (MQ below (va_Qi (fun r (_ : Unit) => r = r0) (fun _ t => zz_B D A (zg_W ML ad cA σf) (zg_T ML cA) t) A) (List.toArray [.ref (ad 0), .int a1]) s 0 0 A) (F0 m 44 ls []) := by
    intro σ hf44_ H44_ locs44_ ls44_ Z44_ hl44_
    unfold B_X7_cloth_44 at hf44_
    refine lv_aload_n hx hb dX7_cloth_44 rfl (lv_at hl44_ 0 rfl) ?_
    refine zy_get (v := .ref (ad 1)) X Z44_ mL_ok mk_0 rfl rfl (fun w h => List.mem_cons_of_mem _ (List.mem_append_right _ h)) 0 rfl (zz_m 1 rfl) rfl dX7_cloth_45 ?_
    refine lv_bipush (v := 7) hx hb dX7_cloth_48 (by decide) ?_
    refine lv_iload_n hx hb dX7_cloth_50 rfl (lv_at hl44_ 1 rfl) ?_
    refine lv_iadd hx hb dX7_cloth_51 ?_
    obtain ⟨⟨i1, j2⟩, hf3⟩ := zG hf44_
    clear hf44_
    refine zy_ild X Z44_ mL_ok mk_1 ml_1 i1 dX7_cloth_52 ?_
    exact zy_iret X hr hlk Z44_ (zEnd hf3) dX7_cloth_53
  refine lv_iload_n hx hb dX7_cloth_0 rfl (lv_at hl 1 rfl) ?_
  by_cases w4 : a1 = 0
  · have hf5 := zYes hf w4
    clear hf
    refine zz_v w4 ?_
    refine lv_tableIn (x := 0) (off := 43) (tgt := 44) hx hb dX7_cloth_1 (by decide) (by decide) rfl (by decide) ?_
    exact b44_ σ hf5 _ _ _ Z (lv_sub hl [0, 1] rfl)
  · have hf6 := zNot hf w4
    clear hf
    by_cases w7 : a1 = 1
    · have hf8 := zYes hf6 w7
      clear hf6
      refine zz_v w7 ?_
      refine lv_tableIn (x := 1) (off := 43) (tgt := 44) hx hb dX7_cloth_1 (by decide) (by decide) rfl (by decide) ?_
      exact b44_ σ hf8 _ _ _ Z (lv_sub hl [0, 1] rfl)
    · have hf9 := zNot hf6 w7
      clear hf6
      by_cases w10 : a1 = 2
      · have hf11 := zYes hf9 w10
        clear hf9
        refine zz_v w10 ?_
        refine lv_tableIn (x := 2) (off := 43) (tgt := 44) hx hb dX7_cloth_1 (by decide) (by decide) rfl (by decide) ?_
        exact b44_ σ hf11 _ _ _ Z (lv_sub hl [0, 1] rfl)
      · have hf12 := zNot hf9 w10
        clear hf9
        by_cases w13 : a1 = 3
        · have hf14 := zYes hf12 w13
          clear hf12
          refine zz_v w13 ?_
          refine lv_tableIn (x := 3) (off := 43) (tgt := 44) hx hb dX7_cloth_1 (by decide) (by decide) rfl (by decide) ?_
          exact b44_ σ hf14 _ _ _ Z (lv_sub hl [0, 1] rfl)
        · have hf15 := zNot hf12 w13
          clear hf12
          by_cases w16 : a1 = 4
          · have hf17 := zYes hf15 w16
            clear hf15
            refine zz_v w16 ?_
            refine lv_tableIn (x := 4) (off := 53) (tgt := 54) hx hb dX7_cloth_1 (by decide) (by decide) rfl (by decide) ?_
            refine lv_aload_n hx hb dX7_cloth_54 rfl (lv_at hl 0 rfl) ?_
            obtain ⟨r18, σ19, hc20, hf21⟩ := zBd hf17
            clear hf17
            refine zy_ci (r0 := r18) (WS1 := zg_W ML ad cA σ19) (TYS1 := zg_T ML cA) Z (va_runV (As := []) (rest := []) X (c_X7_heat l D V ad cA  σ r18 σ19 hc20 s.heap.size) (cwV 0 hts gX7_cloth_X7_heat rfl rfl rfl ⟨rfl, zh_X7_heat⟩ ⟨Nat.le_of_ble_eq_true rfl, Nat.le_of_ble_eq_true rfl⟩) (zy_pV (ci := 7) Z mL_ok mk_0 rfl rfl) rfl rfl hl.1 rfl (lv_room (Nat.le_of_ble_eq_true rfl)) dX7_cloth_55 ⟨Nat.le_of_ble_eq_true rfl, Nat.le_of_ble_eq_true rfl⟩) (fun H22 lo23 Z24 => ?_)
            clear Z hc20
            exact zy_iret X hr hlk Z24 (zEnd hf21) dX7_cloth_58
          · have hf25 := zNot hf15 w16
            clear hf15
            by_cases w26 : a1 = 5
            · have hf27 := zYes hf25 w26
              clear hf25
              refine zz_v w26 ?_
              refine lv_tableIn (x := 5) (off := 58) (tgt := 59) hx hb dX7_cloth_1 (by decide) (by decide) rfl (by decide) ?_
              refine lv_aload_n hx hb dX7_cloth_59 rfl (lv_at hl 0 rfl) ?_
              obtain ⟨r28, σ29, hc30, hf31⟩ := zBd hf27
              clear hf27
              refine zy_ci (r0 := r28) (WS1 := zg_W ML ad cA σ29) (TYS1 := zg_T ML cA) Z (va_runV (As := []) (rest := []) X (c_X7_firstShaded l D V ad cA  σ r28 σ29 hc30 s.heap.size) (cwV 0 hts gX7_cloth_X7_firstShaded rfl rfl rfl ⟨rfl, zh_X7_firstShaded⟩ ⟨Nat.le_of_ble_eq_true rfl, Nat.le_of_ble_eq_true rfl⟩) (zy_pV (ci := 7) Z mL_ok mk_0 rfl rfl) rfl rfl hl.1 rfl (lv_room (Nat.le_of_ble_eq_true rfl)) dX7_cloth_60 ⟨Nat.le_of_ble_eq_true rfl, Nat.le_of_ble_eq_true rfl⟩) (fun H32 lo33 Z34 => ?_)
              clear Z hc30
              obtain ⟨r35, σ36, hc37, hf38⟩ := zBd hf31
              clear hf31
              refine zy_ci (r0 := r35) (WS1 := zg_W ML ad cA σ36) (TYS1 := zg_T ML cA) Z34 (va_runS (As := [.int r28]) (rest := []) X (c_X7_orNone l D V ad cA r28 σ29 r35 σ36 hc37 H32.size) (va_cwS 1 hts gX7_cloth_X7_orNone rfl rfl rfl zh_X7_orNone ⟨Nat.le_of_ble_eq_true rfl, Nat.le_of_ble_eq_true rfl⟩) (zz_pS Z34) rfl rfl hl.1 rfl (lv_room (Nat.le_of_ble_eq_true rfl)) dX7_cloth_63 ⟨Nat.le_of_ble_eq_true rfl, Nat.le_of_ble_eq_true rfl⟩) (fun H39 lo40 Z41 => ?_)
              clear Z34 hc37
              exact zy_iret X hr hlk Z41 (zEnd hf38) dX7_cloth_66
            · have hf42 := zNot hf25 w26
              clear hf25
              by_cases w43 : a1 = 6
              · have hf44 := zYes hf42 w43
                clear hf42
                refine zz_v w43 ?_
                refine lv_tableIn (x := 6) (off := 66) (tgt := 67) hx hb dX7_cloth_1 (by decide) (by decide) rfl (by decide) ?_
                refine lv_aload_n hx hb dX7_cloth_67 rfl (lv_at hl 0 rfl) ?_
                obtain ⟨r45, σ46, hc47, hf48⟩ := zBd hf44
                clear hf44
                refine zy_ci (r0 := r45) (WS1 := zg_W ML ad cA σ46) (TYS1 := zg_T ML cA) Z (va_runV (As := []) (rest := []) X (c_X7_shadedSet l D V ad cA  σ r45 σ46 hc47 s.heap.size) (cwV 0 hts gX7_cloth_X7_shadedSet rfl rfl rfl ⟨rfl, zh_X7_shadedSet⟩ ⟨Nat.le_of_ble_eq_true rfl, Nat.le_of_ble_eq_true rfl⟩) (zy_pV (ci := 7) Z mL_ok mk_0 rfl rfl) rfl rfl hl.1 rfl (lv_room (Nat.le_of_ble_eq_true rfl)) dX7_cloth_68 ⟨Nat.le_of_ble_eq_true rfl, Nat.le_of_ble_eq_true rfl⟩) (fun H49 lo50 Z51 => ?_)
                clear Z hc47
                exact zy_iret X hr hlk Z51 (zEnd hf48) dX7_cloth_71
              · have hf52 := zNot hf42 w43
                clear hf42
                have n53 := zNe (k := 0) (y := 0) (by decide) w4
                have n54 := zNe (k := 1) (y := 1) (by decide) w7
                have n55 := zNe (k := 2) (y := 2) (by decide) w10
                have n56 := zNe (k := 3) (y := 3) (by decide) w13
                have n57 := zNe (k := 4) (y := 4) (by decide) w16
                have n58 := zNe (k := 5) (y := 5) (by decide) w26
                have n59 := zNe (k := 6) (y := 6) (by decide) w43
                refine lv_tableOut (tgt := 72) hx hb dX7_cloth_1 (by omega) (by decide) ?_
                refine lv_ldc (v := (-1000000001)) hx hb hown (hts _ (zz_m 2 rfl)) dX7_cloth_72 ?_
                exact zy_iret X hr hlk Z (zEnd hf52) dX7_cloth_74
def f_X7_comes (a1 : Int32) (a2 : Int32) (a3 : Int32) (σ : zg_S) : Option (Int32 × zg_S) := zlet (zg_up σ 1 0 ((σ 1 0) + 1)) (fun (σ3 : zg_S) => zbd (f_X7_sets (σ 1 0) 0 a1 σ3) (fun (r9 : Int32) (σ10 : zg_S) => zbd (f_X7_sets (σ 1 0) 1 a2 σ10) (fun (r16 : Int32) (σ17 : zg_S) => zbd (f_X7_sets (σ 1 0) 2 100 σ17) (fun (r23 : Int32) (σ24 : zg_S) => zbd (f_X7_sets (σ 1 0) 3 a3 σ24) (fun (r30 : Int32) (σ31 : zg_S) => some (0, σ31))))))
set_option maxHeartbeats 4000000 in
set_option maxRecDepth 100000 in
theorem c_X7_comes (l : Launch) (D : va_G) (V : zz_V) (ad : Nat → Nat) (cA : Nat → ClassId) (a1 : Int32) (a2 : Int32) (a3 : Int32)  (σ : zg_S) (r0 : Int32) (σf : zg_S) (hf : f_X7_comes a1 a2 a3 σ = some (r0, σf)) : zM_V l yX7_comes wsX7_comes 1 23 D V ML ad cA [.ref (ad 0), .int a1, .int a2, .int a3] σ r0 σf := by
  intro sz
  refine Met.ofW (cc := cX7_comes) (maxL := 5) (ret := none) (by decide) rfl ?_
  intro p e s m args below meth c s₁ B hml hv
  obtain ⟨rfl, hC⟩ := hv
  have hx := B.exec
  have hb := B.bytes
  have hr := B.returns
  have hts := atoms_spec (ws := wsX7_comes) B.pre
  have hown : s.vm.findClass RX7 = some m.cls := findClass_of_methodNamed B.named
  have hlk := B.notSynchronized
  have X : CallFix p m c cX7_comes 5 s _ wsX7_comes RX7 := ⟨hx, hb, hml, hown, hts⟩
  have Z := zz_enter hC
  generalize va_A (zg_W ML ad cA σ) sz = A at Z ⊢
  have hl := lv_entry ([.ref (ad 0), .int a1, .int a2, .int a3]) (n := 5) (Nat.le_of_ble_eq_true rfl)
  rw [lg_entry_eq]
  generalize (lg_sl ([.ref (ad 0), .int a1, .int a2, .int a3]) ++ List.replicate (5 - (lg_sl ([.ref (ad 0), .int a1, .int a2, .int a3])).length) Slot.unset).toArray = ls at hl ⊢
  have hl : lv_has ls 5 [(0, .ref (ad 0)), (1, .int a1), (2, .int a2), (3, .int a3)] := hl
  unfold f_X7_comes at hf
  refine lv_aload_n hx hb dX7_comes_0 rfl (lv_at hl 0 rfl) ?_
  refine zy_get (v := .ref (ad 1)) X Z mL_ok mk_0 rfl rfl (fun w h => List.mem_cons_of_mem _ (List.mem_append_right _ h)) 0 rfl (zz_m 1 rfl) rfl dX7_comes_1 ?_
  refine lv_iconst (v := 0) hx hb dX7_comes_4 (by decide) ?_
  refine zy_ild X Z mL_ok mk_1 ml_1 (zz_in 0 3047 rfl) dX7_comes_5 ?_
  refine zz_v (v := σ 1 0) rfl ?_
  refine lv_istore (lv' := [(4, .int (σ 1 0)), (0, .ref (ad 0)), (1, .int a1), (2, .int a2), (3, .int a3)]) hx hb dX7_comes_6 hl (by decide) rfl (fun ls2 hl1 => ?_)
  clear hl
  refine lv_aload_n hx hb dX7_comes_8 rfl (lv_at hl1 1 rfl) ?_
  refine zy_get (v := .ref (ad 1)) X Z mL_ok mk_0 rfl rfl (fun w h => List.mem_cons_of_mem _ (List.mem_append_right _ h)) 0 rfl (zz_m 1 rfl) rfl dX7_comes_9 ?_
  refine lv_iconst (v := 0) hx hb dX7_comes_12 (by decide) ?_
  refine lv_dup2_11 hx hb dX7_comes_13 rfl rfl ?_
  refine zy_ild X Z mL_ok mk_1 ml_1 (zz_in 0 3047 rfl) dX7_comes_14 ?_
  refine zz_v (v := σ 1 0) rfl ?_
  refine lv_iconst (v := 1) hx hb dX7_comes_15 (by decide) ?_
  refine lv_iadd hx hb dX7_comes_16 ?_
  obtain ⟨σ3, es4, hf5⟩ := zLet hf
  clear hf
  refine zy_ist (σ' := σ3) X Z mL_ok mk_1 ml_1 (zz_in 0 3047 rfl) es4 dX7_comes_17 (fun H6 lo7 Z8 => ?_)
  clear Z es4
  refine lv_aload_n hx hb dX7_comes_18 rfl (lv_at hl1 1 rfl) ?_
  refine lv_iload hx hb dX7_comes_19 (lv_at hl1 0 rfl) ?_
  refine lv_iconst (v := 0) hx hb dX7_comes_21 (by decide) ?_
  refine lv_iload_n hx hb dX7_comes_22 rfl (lv_at hl1 2 rfl) ?_
  obtain ⟨r9, σ10, hc11, hf12⟩ := zBd hf5
  clear hf5
  refine zy_cv (WS1 := zg_W ML ad cA σ10) (TYS1 := zg_T ML cA) Z8 (va_runV (As := [.int (σ 1 0), .int 0, .int a1]) (rest := []) X (c_X7_sets l D V ad cA (σ 1 0) 0 a1 σ3 r9 σ10 hc11 H6.size) (cwV 3 hts gX7_comes_X7_sets rfl rfl rfl ⟨rfl, zh_X7_sets⟩ ⟨Nat.le_of_ble_eq_true rfl, Nat.le_of_ble_eq_true rfl⟩) (zy_pV (ci := 7) Z8 mL_ok mk_0 rfl rfl) rfl rfl hl1.1 rfl (lv_room (Nat.le_of_ble_eq_true rfl)) dX7_comes_23 ⟨Nat.le_of_ble_eq_true rfl, Nat.le_of_ble_eq_true rfl⟩) (fun H13 lo14 Z15 => ?_)
  clear Z8 hc11
  refine lv_aload_n hx hb dX7_comes_26 rfl (lv_at hl1 1 rfl) ?_
  refine lv_iload hx hb dX7_comes_27 (lv_at hl1 0 rfl) ?_
  refine lv_iconst (v := 1) hx hb dX7_comes_29 (by decide) ?_
  refine lv_iload_n hx hb dX7_comes_30 rfl (lv_at hl1 3 rfl) ?_
  obtain ⟨r16, σ17, hc18, hf19⟩ := zBd hf12
  clear hf12
  refine zy_cv (WS1 := zg_W ML ad cA σ17) (TYS1 := zg_T ML cA) Z15 (va_runV (As := [.int (σ 1 0), .int 1, .int a2]) (rest := []) X (c_X7_sets l D V ad cA (σ 1 0) 1 a2 σ10 r16 σ17 hc18 H13.size) (cwV 3 hts gX7_comes_X7_sets rfl rfl rfl ⟨rfl, zh_X7_sets⟩ ⟨Nat.le_of_ble_eq_true rfl, Nat.le_of_ble_eq_true rfl⟩) (zy_pV (ci := 7) Z15 mL_ok mk_0 rfl rfl) rfl rfl hl1.1 rfl (lv_room (Nat.le_of_ble_eq_true rfl)) dX7_comes_31 ⟨Nat.le_of_ble_eq_true rfl, Nat.le_of_ble_eq_true rfl⟩) (fun H20 lo21 Z22 => ?_)
  clear Z15 hc18
  refine lv_aload_n hx hb dX7_comes_34 rfl (lv_at hl1 1 rfl) ?_
  refine lv_iload hx hb dX7_comes_35 (lv_at hl1 0 rfl) ?_
  refine lv_iconst (v := 2) hx hb dX7_comes_37 (by decide) ?_
  refine lv_bipush (v := 100) hx hb dX7_comes_38 (by decide) ?_
  obtain ⟨r23, σ24, hc25, hf26⟩ := zBd hf19
  clear hf19
  refine zy_cv (WS1 := zg_W ML ad cA σ24) (TYS1 := zg_T ML cA) Z22 (va_runV (As := [.int (σ 1 0), .int 2, .int 100]) (rest := []) X (c_X7_sets l D V ad cA (σ 1 0) 2 100 σ17 r23 σ24 hc25 H20.size) (cwV 3 hts gX7_comes_X7_sets rfl rfl rfl ⟨rfl, zh_X7_sets⟩ ⟨Nat.le_of_ble_eq_true rfl, Nat.le_of_ble_eq_true rfl⟩) (zy_pV (ci := 7) Z22 mL_ok mk_0 rfl rfl) rfl rfl hl1.1 rfl (lv_room (Nat.le_of_ble_eq_true rfl)) dX7_comes_40 ⟨Nat.le_of_ble_eq_true rfl, Nat.le_of_ble_eq_true rfl⟩) (fun H27 lo28 Z29 => ?_)
  clear Z22 hc25
  refine lv_aload_n hx hb dX7_comes_43 rfl (lv_at hl1 1 rfl) ?_
  refine lv_iload hx hb dX7_comes_44 (lv_at hl1 0 rfl) ?_
  refine lv_iconst (v := 3) hx hb dX7_comes_46 (by decide) ?_
  refine lv_iload_n hx hb dX7_comes_47 rfl (lv_at hl1 4 rfl) ?_
  obtain ⟨r30, σ31, hc32, hf33⟩ := zBd hf26
  clear hf26
  refine zy_cv (WS1 := zg_W ML ad cA σ31) (TYS1 := zg_T ML cA) Z29 (va_runV (As := [.int (σ 1 0), .int 3, .int a3]) (rest := []) X (c_X7_sets l D V ad cA (σ 1 0) 3 a3 σ24 r30 σ31 hc32 H27.size) (cwV 3 hts gX7_comes_X7_sets rfl rfl rfl ⟨rfl, zh_X7_sets⟩ ⟨Nat.le_of_ble_eq_true rfl, Nat.le_of_ble_eq_true rfl⟩) (zy_pV (ci := 7) Z29 mL_ok mk_0 rfl rfl) rfl rfl hl1.1 rfl (lv_room (Nat.le_of_ble_eq_true rfl)) dX7_comes_48 ⟨Nat.le_of_ble_eq_true rfl, Nat.le_of_ble_eq_true rfl⟩) (fun H34 lo35 Z36 => ?_)
  clear Z29 hc32
  exact zy_vret X hr hlk Z36 (zEnd hf33) dX7_comes_51
def f_X7_isSheet (a0 : Int32) (σ : zg_S) : Option (Int32 × zg_S) := zbd (f_X7_isIn (Int32.toInt64 a0) (Int32.toInt64 0) (Int32.toInt64 3) σ) (fun (r1 : Int32) (σ2 : zg_S) => (if r1 = 0 ∨ r1 = 1 then some (r1, σ2) else none))
set_option maxHeartbeats 4000000 in
set_option maxRecDepth 100000 in
theorem c_X7_isSheet (l : Launch) (D : va_G) (V : zz_V) (ad : Nat → Nat) (cA : Nat → ClassId) (a0 : Int32)  (σ : zg_S) (r0 : Int32) (σf : zg_S) (hf : f_X7_isSheet a0 σ = some (r0, σf)) : zM_I l yX7_isSheet wsX7_isSheet 1 25 D V ML ad cA [.int a0] σ r0 σf := by
  intro sz
  refine Met.ofW (cc := cX7_isSheet) (maxL := 1) (ret := (some .boolean)) (by decide) rfl ?_
  intro p e s m args below meth c s₁ B hml hv
  obtain ⟨rfl, hC⟩ := hv
  have hx := B.exec
  have hb := B.bytes
  have hr := B.returns
  have hts := atoms_spec (ws := wsX7_isSheet) B.pre
  have hown : s.vm.findClass RX7 = some m.cls := findClass_of_methodNamed B.named
  have hlk := B.notSynchronized
  have X : CallFix p m c cX7_isSheet 1 s _ wsX7_isSheet RX7 := ⟨hx, hb, hml, hown, hts⟩
  have Z := zz_enter hC
  generalize va_A (zg_W ML ad cA σ) sz = A at Z ⊢
  have hl := lv_entry ([.int a0]) (n := 1) (Nat.le_of_ble_eq_true rfl)
  rw [lg_entry_eq]
  generalize (lg_sl ([.int a0]) ++ List.replicate (1 - (lg_sl ([.int a0])).length) Slot.unset).toArray = ls at hl ⊢
  have hl : lv_has ls 1 [(0, .int a0)] := hl
  unfold f_X7_isSheet at hf
  refine lv_iload_n hx hb dX7_isSheet_0 rfl (lv_at hl 0 rfl) ?_
  refine lv_i2l (v := Int32.toInt64 a0) hx hb dX7_isSheet_1 rfl ?_
  refine lv_lconst (v := 0) hx hb dX7_isSheet_2 (by decide) ?_
  refine zz_vl (v := Int32.toInt64 0) (by decide) ?_
  refine lv_ldc2 (v := 3) hx hb hown (hts _ (zz_m 1 rfl)) dX7_isSheet_3 ?_
  refine zz_vl (v := Int32.toInt64 3) (by decide) ?_
  obtain ⟨r1, σ2, hc3, hf4⟩ := zBd hf
  clear hf
  refine zy_ci (r0 := r1) (WS1 := zg_W ML ad cA σ2) (TYS1 := zg_T ML cA) Z (va_runS (As := [.long (Int32.toInt64 a0), .long (Int32.toInt64 0), .long (Int32.toInt64 3)]) (rest := []) X (c_X7_isIn l D V ad cA (Int32.toInt64 a0) (Int32.toInt64 0) (Int32.toInt64 3) σ r1 σ2 hc3 s.heap.size) (va_cwS 3 hts gX7_isSheet_X7_isIn rfl rfl rfl zh_X7_isIn ⟨Nat.le_of_ble_eq_true rfl, Nat.le_of_ble_eq_true rfl⟩) (zz_pS Z) rfl rfl hl.1 rfl (lv_room (Nat.le_of_ble_eq_true rfl)) dX7_isSheet_6 ⟨Nat.le_of_ble_eq_true rfl, Nat.le_of_ble_eq_true rfl⟩) (fun H5 lo6 Z7 => ?_)
  clear Z hc3
  obtain ⟨z9, hf8⟩ := zC hf4
  exact zy_zret X hr hlk Z7 z9 (zEnd hf8) dX7_isSheet_9
def B_X7_copy_150 (a1 : Int32) (a2 : Int32) (a3 : Int32) (a4 : Int32) (a5 : Int32) (rec150_ : Int32 → zg_S → Option (Int32 × zg_S)) (x6 : Int32) (σ : zg_S) : Option (Int32 × zg_S) := (if a5 ≤ x6 then some (a5, σ) else (if zin x6 24 = true then zlet (σ 16 (Int32.toNatClampNeg x6)) (fun (y7 : Int32) => (if zin (((24 * a3) + a4) + x6) 96 = true then zlet (zg_up σ 6 (Int32.toNatClampNeg (((24 * a3) + a4) + x6)) y7) (fun (σ13 : zg_S) => rec150_ (x6 + 1) σ13) else none)) else none))
def L_X7_copy_150 (a1 : Int32) (a2 : Int32) (a3 : Int32) (a4 : Int32) (a5 : Int32) : Nat → Int32 → zg_S → Option (Int32 × zg_S) := zfix (fun _ _ => none) (B_X7_copy_150 a1 a2 a3 a4 a5)
def B_X7_copy_113 (a1 : Int32) (a2 : Int32) (a3 : Int32) (a4 : Int32) (a5 : Int32) (rec113_ : Int32 → zg_S → Option (Int32 × zg_S)) (x6 : Int32) (σ : zg_S) : Option (Int32 × zg_S) := (if a5 ≤ x6 then L_X7_copy_150 a1 a2 a3 a4 a5 zfu 0 σ else (if zin (((24 * a1) + a2) + x6) 96 = true then zlet (σ 6 (Int32.toNatClampNeg (((24 * a1) + a2) + x6))) (fun (y29 : Int32) => (if zin x6 24 = true then zlet (zg_up σ 16 (Int32.toNatClampNeg x6) y29) (fun (σ35 : zg_S) => rec113_ (x6 + 1) σ35) else none)) else none))
def L_X7_copy_113 (a1 : Int32) (a2 : Int32) (a3 : Int32) (a4 : Int32) (a5 : Int32) : Nat → Int32 → zg_S → Option (Int32 × zg_S) := zfix (fun _ _ => none) (B_X7_copy_113 a1 a2 a3 a4 a5)
def f_X7_copy (a1 : Int32) (a2 : Int32) (a3 : Int32) (a4 : Int32) (a5 : Int32) (σ : zg_S) : Option (Int32 × zg_S) := zbd (f_X7_isSheet a1 σ) (fun (r43 : Int32) (σ44 : zg_S) => (if r43 = 0 then some ((-1000000001), σ44) else zbd (f_X7_isSheet a3 σ44) (fun (r53 : Int32) (σ54 : zg_S) => (if r53 = 0 then some ((-1000000001), σ54) else (if zin a1 4 = true then (if (σ54 4 (Int32.toNatClampNeg a1)) < 0 then some ((-1000000011), σ54) else (if zin a3 4 = true then (if 0 ≤ (σ54 4 (Int32.toNatClampNeg a3)) then (if (σ54 4 (Int32.toNatClampNeg a1)) = (σ54 4 (Int32.toNatClampNeg a3)) then (if a2 < 0 then some ((-1000000013), σ54) else (if a4 < 0 then some ((-1000000013), σ54) else (if a5 < 0 then some ((-1000000013), σ54) else (if 0 < (lg_cmp ((Int32.toInt64 a2) + (Int32.toInt64 a5)) (Int32.toInt64 (σ54 5 (Int32.toNatClampNeg a1)))) then some ((-1000000013), σ54) else (if (lg_cmp ((Int32.toInt64 a4) + (Int32.toInt64 a5)) (Int32.toInt64 (σ54 5 (Int32.toNatClampNeg a3)))) ≤ 0 then L_X7_copy_113 a1 a2 a3 a4 a5 zfu 0 σ54 else some ((-1000000013), σ54)))))) else some ((-1000000012), σ54)) else some ((-1000000011), σ54)) else none)) else none)))))
set_option maxHeartbeats 4000000 in
set_option maxRecDepth 100000 in
theorem c_X7_copy (l : Launch) (D : va_G) (V : zz_V) (ad : Nat → Nat) (cA : Nat → ClassId) (a1 : Int32) (a2 : Int32) (a3 : Int32) (a4 : Int32) (a5 : Int32)  (σ : zg_S) (r0 : Int32) (σf : zg_S) (hf : f_X7_copy a1 a2 a3 a4 a5 σ = some (r0, σf)) : zM_I l yX7_copy wsX7_copy 2 45 D V ML ad cA [.ref (ad 0), .int a1, .int a2, .int a3, .int a4, .int a5] σ r0 σf := by
  intro sz
  refine Met.ofW (cc := cX7_copy) (maxL := 7) (ret := (some .int)) (by decide) rfl ?_
  intro p e s m args below meth c s₁ B hml hv
  obtain ⟨rfl, hC⟩ := hv
  have hx := B.exec
  have hb := B.bytes
  have hr := B.returns
  have hts := atoms_spec (ws := wsX7_copy) B.pre
  have hown : s.vm.findClass RX7 = some m.cls := findClass_of_methodNamed B.named
  have hlk := B.notSynchronized
  have X : CallFix p m c cX7_copy 7 s _ wsX7_copy RX7 := ⟨hx, hb, hml, hown, hts⟩
  have Z := zz_enter hC
  generalize va_A (zg_W ML ad cA σ) sz = A at Z ⊢
  have hl := lv_entry ([.ref (ad 0), .int a1, .int a2, .int a3, .int a4, .int a5]) (n := 7) (Nat.le_of_ble_eq_true rfl)
  rw [lg_entry_eq]
  generalize (lg_sl ([.ref (ad 0), .int a1, .int a2, .int a3, .int a4, .int a5]) ++ List.replicate (7 - (lg_sl ([.ref (ad 0), .int a1, .int a2, .int a3, .int a4, .int a5])).length) Slot.unset).toArray = ls at hl ⊢
  have hl : lv_has ls 7 [(0, .ref (ad 0)), (1, .int a1), (2, .int a2), (3, .int a3), (4, .int a4), (5, .int a5)] := hl
  unfold f_X7_copy at hf
  have b113_ : ∀ (k113_ : Nat) (x6 : Int32) (σ : zg_S), L_X7_copy_113 a1 a2 a3 a4 a5 k113_ x6 σ = some (r0, σf) → ∀ (H : Heap) (locs : List Loc) (ls : Array Slot), zz_S D V A s (zg_W ML ad cA σ) (zg_T ML cA) H locs → lv_has ls 7 [(0, .ref (ad 0)), (1, .int a1), (2, .int a2), (3, .int a3), (4, .int a4), (5, .int a5), (6, .int x6)] → W p l e (headSpec wsX7_copy { frames := 2, cells := 0, slots := 0, locals := 45 }).room s m (List.toArray [.ref (ad 0), .int a1, .int a2, .int a3, .int a4, .int a5]) below meth c H locs 0 0 (MQ below (va_Qi (fun r (_ : Unit) => r = r0) (fun _ t => zz_B D A (zg_W ML ad cA σf) (zg_T ML cA) t) A) (List.toArray [.ref (ad 0), .int a1, .int a2, .int a3, .int a4, .int a5]) s 0 0 A) (F0 m 113 ls []) := by
    intro k113_
    induction k113_ with
    | zero =>
        intro x6 σ hf113_ H113_ locs113_ ls113_ Z113_ hl113_
        exact zNone hf113_
    | succ k113_ ih113_ =>
        intro x6 σ hf113_ H113_ locs113_ ls113_ Z113_ hl113_
        replace hf113_ : B_X7_copy_113 a1 a2 a3 a4 a5 (L_X7_copy_113 a1 a2 a3 a4 a5 k113_) x6 σ = some (r0, σf) := hf113_
        unfold B_X7_copy_113 at hf113_
        have b150_ : ∀ (k150_ : Nat) (x6 : Int32) (σ : zg_S), L_X7_copy_150 a1 a2 a3 a4 a5 k150_ x6 σ = some (r0, σf) → ∀ (H : Heap) (locs : List Loc) (ls : Array Slot), zz_S D V A s (zg_W ML ad cA σ) (zg_T ML cA) H locs → lv_has ls 7 [(0, .ref (ad 0)), (3, .int a3), (4, .int a4), (5, .int a5), (6, .int x6)] → W p l e (headSpec wsX7_copy { frames := 2, cells := 0, slots := 0, locals := 45 }).room s m (List.toArray [.ref (ad 0), .int a1, .int a2, .int a3, .int a4, .int a5]) below meth c H locs 0 0 (MQ below (va_Qi (fun r (_ : Unit) => r = r0) (fun _ t => zz_B D A (zg_W ML ad cA σf) (zg_T ML cA) t) A) (List.toArray [.ref (ad 0), .int a1, .int a2, .int a3, .int a4, .int a5]) s 0 0 A) (F0 m 150 ls []) := by
          intro k150_
          induction k150_ with
          | zero =>
              intro x6 σ hf150_ H150_ locs150_ ls150_ Z150_ hl150_
              exact zNone hf150_
          | succ k150_ ih150_ =>
              intro x6 σ hf150_ H150_ locs150_ ls150_ Z150_ hl150_
              replace hf150_ : B_X7_copy_150 a1 a2 a3 a4 a5 (L_X7_copy_150 a1 a2 a3 a4 a5 k150_) x6 σ = some (r0, σf) := hf150_
              unfold B_X7_copy_150 at hf150_
              refine lv_iload hx hb dX7_copy_150 (lv_at hl150_ 4 rfl) ?_
              refine lv_iload hx hb dX7_copy_152 (lv_at hl150_ 3 rfl) ?_
              refine lv_icmp_ge (tgt := 185) hx hb dX7_copy_154 (by decide) (fun b1 => ?_) (fun b1 => ?_)
              · have hf2 := zYes hf150_ b1
                clear hf150_
                refine lv_iload hx hb dX7_copy_185 (lv_at hl150_ 3 rfl) ?_
                exact zy_iret X hr hlk Z150_ (zEnd hf2) dX7_copy_187
              · have hf3 := zNot hf150_ b1
                clear hf150_
                refine lv_aload_n hx hb dX7_copy_157 rfl (lv_at hl150_ 0 rfl) ?_
                refine zy_get (v := .ref (ad 6)) X Z150_ mL_ok mk_0 rfl rfl (fun w h => List.mem_cons_of_mem _ (List.mem_append_right _ h)) 6 rfl (zz_m 8 rfl) rfl dX7_copy_158 ?_
                refine lv_bipush (v := 24) hx hb dX7_copy_161 (by decide) ?_
                refine lv_iload_n hx hb dX7_copy_163 rfl (lv_at hl150_ 1 rfl) ?_
                refine lv_imul hx hb dX7_copy_164 ?_
                refine lv_iload hx hb dX7_copy_165 (lv_at hl150_ 2 rfl) ?_
                refine lv_iadd hx hb dX7_copy_167 ?_
                refine lv_iload hx hb dX7_copy_168 (lv_at hl150_ 4 rfl) ?_
                refine lv_iadd hx hb dX7_copy_170 ?_
                refine lv_aload_n hx hb dX7_copy_171 rfl (lv_at hl150_ 0 rfl) ?_
                refine zy_get (v := .ref (ad 16)) X Z150_ mL_ok mk_0 rfl rfl (fun w h => List.mem_cons_of_mem _ (List.mem_append_right _ h)) 27 rfl (zz_m 7 rfl) rfl dX7_copy_172 ?_
                refine lv_iload hx hb dX7_copy_175 (lv_at hl150_ 4 rfl) ?_
                obtain ⟨⟨i4, j5⟩, hf6⟩ := zG hf3
                clear hf3
                refine zy_ild X Z150_ mL_ok mk_16 ml_16 i4 dX7_copy_177 ?_
                obtain ⟨y7, ey8, hf9⟩ := zLet hf6
                clear hf6
                refine zz_v (v := y7) ey8.symm ?_
                clear ey8
                obtain ⟨⟨i10, j11⟩, hf12⟩ := zG hf9
                clear hf9
                obtain ⟨σ13, es14, hf15⟩ := zLet hf12
                clear hf12
                refine zy_ist (σ' := σ13) X Z150_ mL_ok mk_6 ml_6 i10 es14 dX7_copy_178 (fun H16 lo17 Z18 => ?_)
                clear Z150_ es14
                refine lv_iinc (v := (x6 + 1)) (lv' := [(6, .int (x6 + 1)), (0, .ref (ad 0)), (3, .int a3), (4, .int a4), (5, .int a5)]) hx hb dX7_copy_179 hl150_ (k := 4) rfl rfl (by decide) rfl (fun ls20 hl19 => ?_)
                clear hl150_
                refine lv_goto (tgt := 150) hx hb dX7_copy_182 (by decide) ?_
                exact ih150_ (x6 + 1) σ13 hf15 _ _ _ Z18 (lv_sub hl19 [1, 2, 3, 4, 0] rfl)
        refine lv_iload hx hb dX7_copy_113 (lv_at hl113_ 6 rfl) ?_
        refine lv_iload hx hb dX7_copy_115 (lv_at hl113_ 5 rfl) ?_
        refine lv_icmp_ge (tgt := 147) hx hb dX7_copy_117 (by decide) (fun b21 => ?_) (fun b21 => ?_)
        · have hf22 := zYes hf113_ b21
          clear hf113_
          refine lv_iconst (v := 0) hx hb dX7_copy_147 (by decide) ?_
          refine lv_istore (lv' := [(6, .int 0), (0, .ref (ad 0)), (1, .int a1), (2, .int a2), (3, .int a3), (4, .int a4), (5, .int a5)]) hx hb dX7_copy_148 hl113_ (by decide) rfl (fun ls24 hl23 => ?_)
          clear hl113_
          exact b150_ zfu 0 σ hf22 _ _ _ Z113_ (lv_sub hl23 [1, 4, 5, 6, 0] rfl)
        · have hf25 := zNot hf113_ b21
          clear hf113_
          refine lv_aload_n hx hb dX7_copy_120 rfl (lv_at hl113_ 0 rfl) ?_
          refine zy_get (v := .ref (ad 16)) X Z113_ mL_ok mk_0 rfl rfl (fun w h => List.mem_cons_of_mem _ (List.mem_append_right _ h)) 27 rfl (zz_m 7 rfl) rfl dX7_copy_121 ?_
          refine lv_iload hx hb dX7_copy_124 (lv_at hl113_ 6 rfl) ?_
          refine lv_aload_n hx hb dX7_copy_126 rfl (lv_at hl113_ 0 rfl) ?_
          refine zy_get (v := .ref (ad 6)) X Z113_ mL_ok mk_0 rfl rfl (fun w h => List.mem_cons_of_mem _ (List.mem_append_right _ h)) 6 rfl (zz_m 8 rfl) rfl dX7_copy_127 ?_
          refine lv_bipush (v := 24) hx hb dX7_copy_130 (by decide) ?_
          refine lv_iload_n hx hb dX7_copy_132 rfl (lv_at hl113_ 1 rfl) ?_
          refine lv_imul hx hb dX7_copy_133 ?_
          refine lv_iload_n hx hb dX7_copy_134 rfl (lv_at hl113_ 2 rfl) ?_
          refine lv_iadd hx hb dX7_copy_135 ?_
          refine lv_iload hx hb dX7_copy_136 (lv_at hl113_ 6 rfl) ?_
          refine lv_iadd hx hb dX7_copy_138 ?_
          obtain ⟨⟨i26, j27⟩, hf28⟩ := zG hf25
          clear hf25
          refine zy_ild X Z113_ mL_ok mk_6 ml_6 i26 dX7_copy_139 ?_
          obtain ⟨y29, ey30, hf31⟩ := zLet hf28
          clear hf28
          refine zz_v (v := y29) ey30.symm ?_
          clear ey30
          obtain ⟨⟨i32, j33⟩, hf34⟩ := zG hf31
          clear hf31
          obtain ⟨σ35, es36, hf37⟩ := zLet hf34
          clear hf34
          refine zy_ist (σ' := σ35) X Z113_ mL_ok mk_16 ml_16 i32 es36 dX7_copy_140 (fun H38 lo39 Z40 => ?_)
          clear Z113_ es36
          refine lv_iinc (v := (x6 + 1)) (lv' := [(6, .int (x6 + 1)), (0, .ref (ad 0)), (1, .int a1), (2, .int a2), (3, .int a3), (4, .int a4), (5, .int a5)]) hx hb dX7_copy_141 hl113_ (k := 6) rfl rfl (by decide) rfl (fun ls42 hl41 => ?_)
          clear hl113_
          refine lv_goto (tgt := 113) hx hb dX7_copy_144 (by decide) ?_
          exact ih113_ (x6 + 1) σ35 hf37 _ _ _ Z40 (lv_sub hl41 [1, 2, 3, 4, 5, 6, 0] rfl)
  refine lv_iload_n hx hb dX7_copy_0 rfl (lv_at hl 1 rfl) ?_
  obtain ⟨r43, σ44, hc45, hf46⟩ := zBd hf
  clear hf
  refine zy_ci (r0 := r43) (WS1 := zg_W ML ad cA σ44) (TYS1 := zg_T ML cA) Z (va_runS (As := [.int a1]) (rest := []) X (c_X7_isSheet l D V ad cA a1 σ r43 σ44 hc45 s.heap.size) (va_cwS 1 hts gX7_copy_X7_isSheet rfl rfl rfl zh_X7_isSheet ⟨Nat.le_of_ble_eq_true rfl, Nat.le_of_ble_eq_true rfl⟩) (zz_pS Z) rfl rfl hl.1 rfl (lv_room (Nat.le_of_ble_eq_true rfl)) dX7_copy_1 ⟨Nat.le_of_ble_eq_true rfl, Nat.le_of_ble_eq_true rfl⟩) (fun H47 lo48 Z49 => ?_)
  clear Z hc45
  refine lv_if_eq (tgt := 14) hx hb dX7_copy_4 (by decide) (fun b50 => ?_) (fun b50 => ?_)
  · have hf51 := zYes hf46 b50
    clear hf46
    refine lv_ldc (v := (-1000000001)) hx hb hown (hts _ (zz_m 1 rfl)) dX7_copy_14 ?_
    exact zy_iret X hr hlk Z49 (zEnd hf51) dX7_copy_16
  · have hf52 := zNot hf46 b50
    clear hf46
    refine lv_iload_n hx hb dX7_copy_7 rfl (lv_at hl 3 rfl) ?_
    obtain ⟨r53, σ54, hc55, hf56⟩ := zBd hf52
    clear hf52
    refine zy_ci (r0 := r53) (WS1 := zg_W ML ad cA σ54) (TYS1 := zg_T ML cA) Z49 (va_runS (As := [.int a3]) (rest := []) X (c_X7_isSheet l D V ad cA a3 σ44 r53 σ54 hc55 H47.size) (va_cwS 1 hts gX7_copy_X7_isSheet rfl rfl rfl zh_X7_isSheet ⟨Nat.le_of_ble_eq_true rfl, Nat.le_of_ble_eq_true rfl⟩) (zz_pS Z49) rfl rfl hl.1 rfl (lv_room (Nat.le_of_ble_eq_true rfl)) dX7_copy_8 ⟨Nat.le_of_ble_eq_true rfl, Nat.le_of_ble_eq_true rfl⟩) (fun H57 lo58 Z59 => ?_)
    clear Z49 hc55
    refine lv_if_ne (tgt := 17) hx hb dX7_copy_11 (by decide) (fun b60 => ?_) (fun b60 => ?_)
    · have hf61 := zNot hf56 b60
      clear hf56
      refine lv_aload_n hx hb dX7_copy_17 rfl (lv_at hl 0 rfl) ?_
      refine zy_get (v := .ref (ad 4)) X Z59 mL_ok mk_0 rfl rfl (fun w h => List.mem_cons_of_mem _ (List.mem_append_right _ h)) 4 rfl (zz_m 2 rfl) rfl dX7_copy_18 ?_
      refine lv_iload_n hx hb dX7_copy_21 rfl (lv_at hl 1 rfl) ?_
      obtain ⟨⟨i62, j63⟩, hf64⟩ := zG hf61
      clear hf61
      refine zy_ild X Z59 mL_ok mk_4 ml_4 i62 dX7_copy_22 ?_
      refine lv_if_lt (tgt := 35) hx hb dX7_copy_23 (by decide) (fun b65 => ?_) (fun b65 => ?_)
      · have hf66 := zYes hf64 b65
        clear hf64
        refine lv_ldcw (v := (-1000000011)) hx hb hown (hts _ (zz_m 3 rfl)) dX7_copy_35 ?_
        exact zy_iret X hr hlk Z59 (zEnd hf66) dX7_copy_38
      · have hf67 := zNot hf64 b65
        clear hf64
        refine lv_aload_n hx hb dX7_copy_26 rfl (lv_at hl 0 rfl) ?_
        refine zy_get (v := .ref (ad 4)) X Z59 mL_ok mk_0 rfl rfl (fun w h => List.mem_cons_of_mem _ (List.mem_append_right _ h)) 4 rfl (zz_m 2 rfl) rfl dX7_copy_27 ?_
        refine lv_iload_n hx hb dX7_copy_30 rfl (lv_at hl 3 rfl) ?_
        obtain ⟨⟨i68, j69⟩, hf70⟩ := zG hf67
        clear hf67
        refine zy_ild X Z59 mL_ok mk_4 ml_4 i68 dX7_copy_31 ?_
        refine lv_if_ge (tgt := 39) hx hb dX7_copy_32 (by decide) (fun b71 => ?_) (fun b71 => ?_)
        · have hf72 := zYes hf70 b71
          clear hf70
          refine lv_aload_n hx hb dX7_copy_39 rfl (lv_at hl 0 rfl) ?_
          refine zy_get (v := .ref (ad 4)) X Z59 mL_ok mk_0 rfl rfl (fun w h => List.mem_cons_of_mem _ (List.mem_append_right _ h)) 4 rfl (zz_m 2 rfl) rfl dX7_copy_40 ?_
          refine lv_iload_n hx hb dX7_copy_43 rfl (lv_at hl 1 rfl) ?_
          refine zy_ild X Z59 mL_ok mk_4 ml_4 i62 dX7_copy_44 ?_
          refine lv_aload_n hx hb dX7_copy_45 rfl (lv_at hl 0 rfl) ?_
          refine zy_get (v := .ref (ad 4)) X Z59 mL_ok mk_0 rfl rfl (fun w h => List.mem_cons_of_mem _ (List.mem_append_right _ h)) 4 rfl (zz_m 2 rfl) rfl dX7_copy_46 ?_
          refine lv_iload_n hx hb dX7_copy_49 rfl (lv_at hl 3 rfl) ?_
          refine zy_ild X Z59 mL_ok mk_4 ml_4 i68 dX7_copy_50 ?_
          refine lv_icmp_eq (tgt := 57) hx hb dX7_copy_51 (by decide) (fun b73 => ?_) (fun b73 => ?_)
          · have hf74 := zYes hf72 b73
            clear hf72
            refine lv_iload_n hx hb dX7_copy_57 rfl (lv_at hl 2 rfl) ?_
            refine lv_if_lt (tgt := 106) hx hb dX7_copy_58 (by decide) (fun b75 => ?_) (fun b75 => ?_)
            · have hf76 := zYes hf74 b75
              clear hf74
              refine lv_ldcw (v := (-1000000013)) hx hb hown (hts _ (zz_m 6 rfl)) dX7_copy_106 ?_
              exact zy_iret X hr hlk Z59 (zEnd hf76) dX7_copy_109
            · have hf77 := zNot hf74 b75
              clear hf74
              refine lv_iload hx hb dX7_copy_61 (lv_at hl 4 rfl) ?_
              refine lv_if_lt (tgt := 106) hx hb dX7_copy_63 (by decide) (fun b78 => ?_) (fun b78 => ?_)
              · have hf79 := zYes hf77 b78
                clear hf77
                refine lv_ldcw (v := (-1000000013)) hx hb hown (hts _ (zz_m 6 rfl)) dX7_copy_106 ?_
                exact zy_iret X hr hlk Z59 (zEnd hf79) dX7_copy_109
              · have hf80 := zNot hf77 b78
                clear hf77
                refine lv_iload hx hb dX7_copy_66 (lv_at hl 5 rfl) ?_
                refine lv_if_lt (tgt := 106) hx hb dX7_copy_68 (by decide) (fun b81 => ?_) (fun b81 => ?_)
                · have hf82 := zYes hf80 b81
                  clear hf80
                  refine lv_ldcw (v := (-1000000013)) hx hb hown (hts _ (zz_m 6 rfl)) dX7_copy_106 ?_
                  exact zy_iret X hr hlk Z59 (zEnd hf82) dX7_copy_109
                · have hf83 := zNot hf80 b81
                  clear hf80
                  refine lv_iload_n hx hb dX7_copy_71 rfl (lv_at hl 2 rfl) ?_
                  refine lv_i2l (v := Int32.toInt64 a2) hx hb dX7_copy_72 rfl ?_
                  refine lv_iload hx hb dX7_copy_73 (lv_at hl 5 rfl) ?_
                  refine lv_i2l (v := Int32.toInt64 a5) hx hb dX7_copy_75 rfl ?_
                  refine lv_ladd hx hb dX7_copy_76 ?_
                  refine lv_aload_n hx hb dX7_copy_77 rfl (lv_at hl 0 rfl) ?_
                  refine zy_get (v := .ref (ad 5)) X Z59 mL_ok mk_0 rfl rfl (fun w h => List.mem_cons_of_mem _ (List.mem_append_right _ h)) 5 rfl (zz_m 5 rfl) rfl dX7_copy_78 ?_
                  refine lv_iload_n hx hb dX7_copy_81 rfl (lv_at hl 1 rfl) ?_
                  refine zy_ild X Z59 mL_ok mk_5 ml_5 i62 dX7_copy_82 ?_
                  refine lv_i2l (v := Int32.toInt64 (σ54 5 (Int32.toNatClampNeg a1))) hx hb dX7_copy_83 rfl ?_
                  refine W.lcmp hx hb dX7_copy_84 ?_
                  refine lv_if_gt (tgt := 106) hx hb dX7_copy_85 (by decide) (fun b84 => ?_) (fun b84 => ?_)
                  · have hf85 := zYes hf83 b84
                    clear hf83
                    refine lv_ldcw (v := (-1000000013)) hx hb hown (hts _ (zz_m 6 rfl)) dX7_copy_106 ?_
                    exact zy_iret X hr hlk Z59 (zEnd hf85) dX7_copy_109
                  · have hf86 := zNot hf83 b84
                    clear hf83
                    refine lv_iload hx hb dX7_copy_88 (lv_at hl 4 rfl) ?_
                    refine lv_i2l (v := Int32.toInt64 a4) hx hb dX7_copy_90 rfl ?_
                    refine lv_iload hx hb dX7_copy_91 (lv_at hl 5 rfl) ?_
                    refine lv_i2l (v := Int32.toInt64 a5) hx hb dX7_copy_93 rfl ?_
                    refine lv_ladd hx hb dX7_copy_94 ?_
                    refine lv_aload_n hx hb dX7_copy_95 rfl (lv_at hl 0 rfl) ?_
                    refine zy_get (v := .ref (ad 5)) X Z59 mL_ok mk_0 rfl rfl (fun w h => List.mem_cons_of_mem _ (List.mem_append_right _ h)) 5 rfl (zz_m 5 rfl) rfl dX7_copy_96 ?_
                    refine lv_iload_n hx hb dX7_copy_99 rfl (lv_at hl 3 rfl) ?_
                    refine zy_ild X Z59 mL_ok mk_5 ml_5 i68 dX7_copy_100 ?_
                    refine lv_i2l (v := Int32.toInt64 (σ54 5 (Int32.toNatClampNeg a3))) hx hb dX7_copy_101 rfl ?_
                    refine W.lcmp hx hb dX7_copy_102 ?_
                    refine lv_if_le (tgt := 110) hx hb dX7_copy_103 (by decide) (fun b87 => ?_) (fun b87 => ?_)
                    · have hf88 := zYes hf86 b87
                      clear hf86
                      refine lv_iconst (v := 0) hx hb dX7_copy_110 (by decide) ?_
                      refine lv_istore (lv' := [(6, .int 0), (0, .ref (ad 0)), (1, .int a1), (2, .int a2), (3, .int a3), (4, .int a4), (5, .int a5)]) hx hb dX7_copy_111 hl (by decide) rfl (fun ls90 hl89 => ?_)
                      clear hl
                      exact b113_ zfu 0 σ54 hf88 _ _ _ Z59 (lv_sub hl89 [1, 2, 3, 4, 5, 6, 0] rfl)
                    · have hf91 := zNot hf86 b87
                      clear hf86
                      refine lv_ldcw (v := (-1000000013)) hx hb hown (hts _ (zz_m 6 rfl)) dX7_copy_106 ?_
                      exact zy_iret X hr hlk Z59 (zEnd hf91) dX7_copy_109
          · have hf92 := zNot hf72 b73
            clear hf72
            refine lv_ldc (v := (-1000000012)) hx hb hown (hts _ (zz_m 4 rfl)) dX7_copy_54 ?_
            exact zy_iret X hr hlk Z59 (zEnd hf92) dX7_copy_56
        · have hf93 := zNot hf70 b71
          clear hf70
          refine lv_ldcw (v := (-1000000011)) hx hb hown (hts _ (zz_m 3 rfl)) dX7_copy_35 ?_
          exact zy_iret X hr hlk Z59 (zEnd hf93) dX7_copy_38
    · have hf94 := zYes hf56 b60
      clear hf56
      refine lv_ldc (v := (-1000000001)) hx hb hown (hts _ (zz_m 1 rfl)) dX7_copy_14 ?_
      exact zy_iret X hr hlk Z59 (zEnd hf94) dX7_copy_16
def B_X7_manyShaded_7 (rec7_ : Int32 → Int32 → zg_S → Option (Int32 × zg_S)) (x1 : Int32) (x2 : Int32) (σ : zg_S) : Option (Int32 × zg_S) := (if x2 = 0 then some (x1, σ) else rec7_ (x1 + 1) (x2 &&& (x2 - 1)) σ)
def L_X7_manyShaded_7 : Nat → Int32 → Int32 → zg_S → Option (Int32 × zg_S) := zfix (fun _ _ _ => none) (B_X7_manyShaded_7)
def f_X7_manyShaded  (σ : zg_S) : Option (Int32 × zg_S) := zbd (f_X7_shadedSet σ) (fun (r10 : Int32) (σ11 : zg_S) => L_X7_manyShaded_7 zfu 0 r10 σ11)
set_option maxHeartbeats 4000000 in
set_option maxRecDepth 100000 in
theorem c_X7_manyShaded (l : Launch) (D : va_G) (V : zz_V) (ad : Nat → Nat) (cA : Nat → ClassId)   (σ : zg_S) (r0 : Int32) (σf : zg_S) (hf : f_X7_manyShaded  σ = some (r0, σf)) : zM_I l yX7_manyShaded wsX7_manyShaded 3 68 D V ML ad cA [.ref (ad 0)] σ r0 σf := by
  intro sz
  refine Met.ofW (cc := cX7_manyShaded) (maxL := 3) (ret := (some .int)) (by decide) rfl ?_
  intro p e s m args below meth c s₁ B hml hv
  obtain ⟨rfl, hC⟩ := hv
  have hx := B.exec
  have hb := B.bytes
  have hr := B.returns
  have hts := atoms_spec (ws := wsX7_manyShaded) B.pre
  have hown : s.vm.findClass RX7 = some m.cls := findClass_of_methodNamed B.named
  have hlk := B.notSynchronized
  have X : CallFix p m c cX7_manyShaded 3 s _ wsX7_manyShaded RX7 := ⟨hx, hb, hml, hown, hts⟩
  have Z := zz_enter hC
  generalize va_A (zg_W ML ad cA σ) sz = A at Z ⊢
  have hl := lv_entry ([.ref (ad 0)]) (n := 3) (Nat.le_of_ble_eq_true rfl)
  rw [lg_entry_eq]
  generalize (lg_sl ([.ref (ad 0)]) ++ List.replicate (3 - (lg_sl ([.ref (ad 0)])).length) Slot.unset).toArray = ls at hl ⊢
  have hl : lv_has ls 3 [(0, .ref (ad 0))] := hl
  unfold f_X7_manyShaded at hf
  have b7_ : ∀ (k7_ : Nat) (x1 : Int32) (x2 : Int32) (σ : zg_S), L_X7_manyShaded_7 k7_ x1 x2 σ = some (r0, σf) → ∀ (H : Heap) (locs : List Loc) (ls : Array Slot), zz_S D V A s (zg_W ML ad cA σ) (zg_T ML cA) H locs → lv_has ls 3 [(1, .int x1), (2, .int x2)] → W p l e (headSpec wsX7_manyShaded { frames := 3, cells := 0, slots := 0, locals := 68 }).room s m (List.toArray [.ref (ad 0)]) below meth c H locs 0 0 (MQ below (va_Qi (fun r (_ : Unit) => r = r0) (fun _ t => zz_B D A (zg_W ML ad cA σf) (zg_T ML cA) t) A) (List.toArray [.ref (ad 0)]) s 0 0 A) (F0 m 7 ls []) := by
    intro k7_
    induction k7_ with
    | zero =>
        intro x1 x2 σ hf7_ H7_ locs7_ ls7_ Z7_ hl7_
        exact zNone hf7_
    | succ k7_ ih7_ =>
        intro x1 x2 σ hf7_ H7_ locs7_ ls7_ Z7_ hl7_
        replace hf7_ : B_X7_manyShaded_7 (L_X7_manyShaded_7 k7_) x1 x2 σ = some (r0, σf) := hf7_
        unfold B_X7_manyShaded_7 at hf7_
        refine lv_iload_n hx hb dX7_manyShaded_7 rfl (lv_at hl7_ 1 rfl) ?_
        refine lv_if_eq (tgt := 23) hx hb dX7_manyShaded_8 (by decide) (fun b1 => ?_) (fun b1 => ?_)
        · have hf2 := zYes hf7_ b1
          clear hf7_
          refine lv_iload_n hx hb dX7_manyShaded_23 rfl (lv_at hl7_ 0 rfl) ?_
          exact zy_iret X hr hlk Z7_ (zEnd hf2) dX7_manyShaded_24
        · have hf3 := zNot hf7_ b1
          clear hf7_
          refine lv_iinc (v := (x1 + 1)) (lv' := [(1, .int (x1 + 1)), (2, .int x2)]) hx hb dX7_manyShaded_11 hl7_ (k := 0) rfl rfl (by decide) rfl (fun ls5 hl4 => ?_)
          clear hl7_
          refine lv_iload_n hx hb dX7_manyShaded_14 rfl (lv_at hl4 1 rfl) ?_
          refine lv_iload_n hx hb dX7_manyShaded_15 rfl (lv_at hl4 1 rfl) ?_
          refine lv_iconst (v := 1) hx hb dX7_manyShaded_16 (by decide) ?_
          refine lv_isub hx hb dX7_manyShaded_17 ?_
          refine lv_iand hx hb dX7_manyShaded_18 ?_
          refine lv_istore_n (lv' := [(2, .int (x2 &&& (x2 - 1))), (1, .int (x1 + 1))]) hx hb dX7_manyShaded_19 rfl hl4 (by decide) rfl (fun ls7 hl6 => ?_)
          clear hl4
          refine lv_goto (tgt := 7) hx hb dX7_manyShaded_20 (by decide) ?_
          exact ih7_ (x1 + 1) (x2 &&& (x2 - 1)) σ hf3 _ _ _ Z7_ (lv_sub hl6 [1, 0] rfl)
  refine lv_iconst (v := 0) hx hb dX7_manyShaded_0 (by decide) ?_
  refine lv_istore_n (lv' := [(1, .int 0), (0, .ref (ad 0))]) hx hb dX7_manyShaded_1 rfl hl (by decide) rfl (fun ls9 hl8 => ?_)
  clear hl
  refine lv_aload_n hx hb dX7_manyShaded_2 rfl (lv_at hl8 1 rfl) ?_
  obtain ⟨r10, σ11, hc12, hf13⟩ := zBd hf
  clear hf
  refine zy_ci (r0 := r10) (WS1 := zg_W ML ad cA σ11) (TYS1 := zg_T ML cA) Z (va_runV (As := []) (rest := []) X (c_X7_shadedSet l D V ad cA  σ r10 σ11 hc12 s.heap.size) (cwV 0 hts gX7_manyShaded_X7_shadedSet rfl rfl rfl ⟨rfl, zh_X7_shadedSet⟩ ⟨Nat.le_of_ble_eq_true rfl, Nat.le_of_ble_eq_true rfl⟩) (zy_pV (ci := 7) Z mL_ok mk_0 rfl rfl) rfl rfl hl8.1 rfl (lv_room (Nat.le_of_ble_eq_true rfl)) dX7_manyShaded_3 ⟨Nat.le_of_ble_eq_true rfl, Nat.le_of_ble_eq_true rfl⟩) (fun H14 lo15 Z16 => ?_)
  clear Z hc12
  refine lv_istore_n (lv' := [(2, .int r10), (1, .int 0), (0, .ref (ad 0))]) hx hb dX7_manyShaded_6 rfl hl8 (by decide) rfl (fun ls18 hl17 => ?_)
  clear hl8
  exact b7_ zfu 0 r10 σ11 hf13 _ _ _ Z16 (lv_sub hl17 [1, 0] rfl)
def f_X7_count (a1 : Int32) (σ : zg_S) : Option (Int32 × zg_S) := (if a1 = 0 then some (σ 1 0, σ) else (if a1 = 1 then some (σ 1 2, σ) else (if a1 = 2 then zbd (f_X7_manyShaded σ) (fun (r9 : Int32) (σ10 : zg_S) => some (r9, σ10)) else (if a1 = 3 then some (σ 1 1, σ) else (if a1 = 4 then some (σ 0 29, σ) else (if a1 = 5 then some (σ 0 14, σ) else (if a1 = 6 then some (σ 1 6, σ) else some ((-1000000001), σ))))))))
set_option maxHeartbeats 4000000 in
set_option maxRecDepth 100000 in
theorem c_X7_count (l : Launch) (D : va_G) (V : zz_V) (ad : Nat → Nat) (cA : Nat → ClassId) (a1 : Int32)  (σ : zg_S) (r0 : Int32) (σf : zg_S) (hf : f_X7_count a1 σ = some (r0, σf)) : zM_I l yX7_count wsX7_count 4 90 D V ML ad cA [.ref (ad 0), .int a1] σ r0 σf := by
  intro sz
  refine Met.ofW (cc := cX7_count) (maxL := 2) (ret := (some .int)) (by decide) rfl ?_
  intro p e s m args below meth c s₁ B hml hv
  obtain ⟨rfl, hC⟩ := hv
  have hx := B.exec
  have hb := B.bytes
  have hr := B.returns
  have hts := atoms_spec (ws := wsX7_count) B.pre
  have hown : s.vm.findClass RX7 = some m.cls := findClass_of_methodNamed B.named
  have hlk := B.notSynchronized
  have X : CallFix p m c cX7_count 2 s _ wsX7_count RX7 := ⟨hx, hb, hml, hown, hts⟩
  have Z := zz_enter hC
  generalize va_A (zg_W ML ad cA σ) sz = A at Z ⊢
  have hl := lv_entry ([.ref (ad 0), .int a1]) (n := 2) (Nat.le_of_ble_eq_true rfl)
  rw [lg_entry_eq]
  generalize (lg_sl ([.ref (ad 0), .int a1]) ++ List.replicate (2 - (lg_sl ([.ref (ad 0), .int a1])).length) Slot.unset).toArray = ls at hl ⊢
  have hl : lv_has ls 2 [(0, .ref (ad 0)), (1, .int a1)] := hl
  unfold f_X7_count at hf
  refine lv_iload_n hx hb dX7_count_0 rfl (lv_at hl 1 rfl) ?_
  by_cases w1 : a1 = 0
  · have hf2 := zYes hf w1
    clear hf
    refine zz_v w1 ?_
    refine lv_tableIn (x := 0) (off := 43) (tgt := 44) hx hb dX7_count_1 (by decide) (by decide) rfl (by decide) ?_
    refine lv_aload_n hx hb dX7_count_44 rfl (lv_at hl 0 rfl) ?_
    refine zy_get (v := .ref (ad 1)) X Z mL_ok mk_0 rfl rfl (fun w h => List.mem_cons_of_mem _ (List.mem_append_right _ h)) 0 rfl (zz_m 1 rfl) rfl dX7_count_45 ?_
    refine lv_iconst (v := 0) hx hb dX7_count_48 (by decide) ?_
    refine zy_ild X Z mL_ok mk_1 ml_1 (zz_in 0 3047 rfl) dX7_count_49 ?_
    refine zz_v (v := σ 1 0) rfl ?_
    exact zy_iret X hr hlk Z (zEnd hf2) dX7_count_50
  · have hf3 := zNot hf w1
    clear hf
    by_cases w4 : a1 = 1
    · have hf5 := zYes hf3 w4
      clear hf3
      refine zz_v w4 ?_
      refine lv_tableIn (x := 1) (off := 50) (tgt := 51) hx hb dX7_count_1 (by decide) (by decide) rfl (by decide) ?_
      refine lv_aload_n hx hb dX7_count_51 rfl (lv_at hl 0 rfl) ?_
      refine zy_get (v := .ref (ad 1)) X Z mL_ok mk_0 rfl rfl (fun w h => List.mem_cons_of_mem _ (List.mem_append_right _ h)) 0 rfl (zz_m 1 rfl) rfl dX7_count_52 ?_
      refine lv_iconst (v := 2) hx hb dX7_count_55 (by decide) ?_
      refine zy_ild X Z mL_ok mk_1 ml_1 (zz_in 2 3047 rfl) dX7_count_56 ?_
      refine zz_v (v := σ 1 2) rfl ?_
      exact zy_iret X hr hlk Z (zEnd hf5) dX7_count_57
    · have hf6 := zNot hf3 w4
      clear hf3
      by_cases w7 : a1 = 2
      · have hf8 := zYes hf6 w7
        clear hf6
        refine zz_v w7 ?_
        refine lv_tableIn (x := 2) (off := 57) (tgt := 58) hx hb dX7_count_1 (by decide) (by decide) rfl (by decide) ?_
        refine lv_aload_n hx hb dX7_count_58 rfl (lv_at hl 0 rfl) ?_
        obtain ⟨r9, σ10, hc11, hf12⟩ := zBd hf8
        clear hf8
        refine zy_ci (r0 := r9) (WS1 := zg_W ML ad cA σ10) (TYS1 := zg_T ML cA) Z (va_runV (As := []) (rest := []) X (c_X7_manyShaded l D V ad cA  σ r9 σ10 hc11 s.heap.size) (cwV 0 hts gX7_count_X7_manyShaded rfl rfl rfl ⟨rfl, zh_X7_manyShaded⟩ ⟨Nat.le_of_ble_eq_true rfl, Nat.le_of_ble_eq_true rfl⟩) (zy_pV (ci := 7) Z mL_ok mk_0 rfl rfl) rfl rfl hl.1 rfl (lv_room (Nat.le_of_ble_eq_true rfl)) dX7_count_59 ⟨Nat.le_of_ble_eq_true rfl, Nat.le_of_ble_eq_true rfl⟩) (fun H13 lo14 Z15 => ?_)
        clear Z hc11
        exact zy_iret X hr hlk Z15 (zEnd hf12) dX7_count_62
      · have hf16 := zNot hf6 w7
        clear hf6
        by_cases w17 : a1 = 3
        · have hf18 := zYes hf16 w17
          clear hf16
          refine zz_v w17 ?_
          refine lv_tableIn (x := 3) (off := 62) (tgt := 63) hx hb dX7_count_1 (by decide) (by decide) rfl (by decide) ?_
          refine lv_aload_n hx hb dX7_count_63 rfl (lv_at hl 0 rfl) ?_
          refine zy_get (v := .ref (ad 1)) X Z mL_ok mk_0 rfl rfl (fun w h => List.mem_cons_of_mem _ (List.mem_append_right _ h)) 0 rfl (zz_m 1 rfl) rfl dX7_count_64 ?_
          refine lv_iconst (v := 1) hx hb dX7_count_67 (by decide) ?_
          refine zy_ild X Z mL_ok mk_1 ml_1 (zz_in 1 3047 rfl) dX7_count_68 ?_
          refine zz_v (v := σ 1 1) rfl ?_
          exact zy_iret X hr hlk Z (zEnd hf18) dX7_count_69
        · have hf19 := zNot hf16 w17
          clear hf16
          by_cases w20 : a1 = 4
          · have hf21 := zYes hf19 w20
            clear hf19
            refine zz_v w20 ?_
            refine lv_tableIn (x := 4) (off := 69) (tgt := 70) hx hb dX7_count_1 (by decide) (by decide) rfl (by decide) ?_
            refine lv_aload_n hx hb dX7_count_70 rfl (lv_at hl 0 rfl) ?_
            refine zy_get (v := .int (σ 0 29)) X Z mL_ok mk_0 rfl rfl (fun w h => List.mem_cons_of_mem _ (List.mem_append_right _ h)) 29 rfl (zz_m 2 rfl) rfl dX7_count_71 ?_
            exact zy_iret X hr hlk Z (zEnd hf21) dX7_count_74
          · have hf22 := zNot hf19 w20
            clear hf19
            by_cases w23 : a1 = 5
            · have hf24 := zYes hf22 w23
              clear hf22
              refine zz_v w23 ?_
              refine lv_tableIn (x := 5) (off := 74) (tgt := 75) hx hb dX7_count_1 (by decide) (by decide) rfl (by decide) ?_
              refine lv_aload_n hx hb dX7_count_75 rfl (lv_at hl 0 rfl) ?_
              refine zy_get (v := .int (σ 0 14)) X Z mL_ok mk_0 rfl rfl (fun w h => List.mem_cons_of_mem _ (List.mem_append_right _ h)) 14 rfl (zz_m 3 rfl) rfl dX7_count_76 ?_
              exact zy_iret X hr hlk Z (zEnd hf24) dX7_count_79
            · have hf25 := zNot hf22 w23
              clear hf22
              by_cases w26 : a1 = 6
              · have hf27 := zYes hf25 w26
                clear hf25
                refine zz_v w26 ?_
                refine lv_tableIn (x := 6) (off := 79) (tgt := 80) hx hb dX7_count_1 (by decide) (by decide) rfl (by decide) ?_
                refine lv_aload_n hx hb dX7_count_80 rfl (lv_at hl 0 rfl) ?_
                refine zy_get (v := .ref (ad 1)) X Z mL_ok mk_0 rfl rfl (fun w h => List.mem_cons_of_mem _ (List.mem_append_right _ h)) 0 rfl (zz_m 1 rfl) rfl dX7_count_81 ?_
                refine lv_bipush (v := 6) hx hb dX7_count_84 (by decide) ?_
                refine zy_ild X Z mL_ok mk_1 ml_1 (zz_in 6 3047 rfl) dX7_count_86 ?_
                refine zz_v (v := σ 1 6) rfl ?_
                exact zy_iret X hr hlk Z (zEnd hf27) dX7_count_87
              · have hf28 := zNot hf25 w26
                clear hf25
                have n29 := zNe (k := 0) (y := 0) (by decide) w1
                have n30 := zNe (k := 1) (y := 1) (by decide) w4
                have n31 := zNe (k := 2) (y := 2) (by decide) w7
                have n32 := zNe (k := 3) (y := 3) (by decide) w17
                have n33 := zNe (k := 4) (y := 4) (by decide) w20
                have n34 := zNe (k := 5) (y := 5) (by decide) w23
                have n35 := zNe (k := 6) (y := 6) (by decide) w26
                refine lv_tableOut (tgt := 88) hx hb dX7_count_1 (by omega) (by decide) ?_
                refine lv_ldc (v := (-1000000001)) hx hb hown (hts _ (zz_m 4 rfl)) dX7_count_88 ?_
                exact zy_iret X hr hlk Z (zEnd hf28) dX7_count_90
def B_X7_deal_17 (a1 : Int32) (rec17_ : Int32 → zg_S → Option (Int32 × zg_S)) (x2 : Int32) (σ : zg_S) : Option (Int32 × zg_S) := (if a1 ≤ x2 then some (x2, σ) else (if 9 ≤ (σ 1 0) then some (x2, σ) else zbd (f_X7_drawn σ) (fun (r7 : Int32) (σ8 : zg_S) => zbd (f_X7_drawn σ8) (fun (r16 : Int32) (σ17 : zg_S) => zbd (f_X7_drawn σ17) (fun (r25 : Int32) (σ26 : zg_S) => zbd (f_X7_comes (r7 - r7 / 6 * 6) (r16 - r16 / 12 * 12) (r25 - r25 / 40 * 40) σ26) (fun (r32 : Int32) (σ33 : zg_S) => rec17_ (x2 + 1) σ33))))))
def L_X7_deal_17 (a1 : Int32) : Nat → Int32 → zg_S → Option (Int32 × zg_S) := zfix (fun _ _ => none) (B_X7_deal_17 a1)
def f_X7_deal (a1 : Int32) (σ : zg_S) : Option (Int32 × zg_S) := zbd (f_X7_isIn (Int32.toInt64 a1) (Int32.toInt64 1) (Int32.toInt64 9) σ) (fun (r41 : Int32) (σ42 : zg_S) => (if r41 = 0 then some ((-1000000001), σ42) else L_X7_deal_17 a1 zfu 0 σ42))
set_option maxHeartbeats 4000000 in
set_option maxRecDepth 100000 in
theorem c_X7_deal (l : Launch) (D : va_G) (V : zz_V) (ad : Nat → Nat) (cA : Nat → ClassId) (a1 : Int32)  (σ : zg_S) (r0 : Int32) (σf : zg_S) (hf : f_X7_deal a1 σ = some (r0, σf)) : zM_I l yX7_deal wsX7_deal 2 47 D V ML ad cA [.ref (ad 0), .int a1] σ r0 σf := by
  intro sz
  refine Met.ofW (cc := cX7_deal) (maxL := 5) (ret := (some .int)) (by decide) rfl ?_
  intro p e s m args below meth c s₁ B hml hv
  obtain ⟨rfl, hC⟩ := hv
  have hx := B.exec
  have hb := B.bytes
  have hr := B.returns
  have hts := atoms_spec (ws := wsX7_deal) B.pre
  have hown : s.vm.findClass RX7 = some m.cls := findClass_of_methodNamed B.named
  have hlk := B.notSynchronized
  have X : CallFix p m c cX7_deal 5 s _ wsX7_deal RX7 := ⟨hx, hb, hml, hown, hts⟩
  have Z := zz_enter hC
  generalize va_A (zg_W ML ad cA σ) sz = A at Z ⊢
  have hl := lv_entry ([.ref (ad 0), .int a1]) (n := 5) (Nat.le_of_ble_eq_true rfl)
  rw [lg_entry_eq]
  generalize (lg_sl ([.ref (ad 0), .int a1]) ++ List.replicate (5 - (lg_sl ([.ref (ad 0), .int a1])).length) Slot.unset).toArray = ls at hl ⊢
  have hl : lv_has ls 5 [(0, .ref (ad 0)), (1, .int a1)] := hl
  unfold f_X7_deal at hf
  have b17_ : ∀ (k17_ : Nat) (x2 : Int32) (σ : zg_S), L_X7_deal_17 a1 k17_ x2 σ = some (r0, σf) → ∀ (H : Heap) (locs : List Loc) (ls : Array Slot), zz_S D V A s (zg_W ML ad cA σ) (zg_T ML cA) H locs → lv_has ls 5 [(0, .ref (ad 0)), (1, .int a1), (2, .int x2)] → W p l e (headSpec wsX7_deal { frames := 2, cells := 0, slots := 0, locals := 47 }).room s m (List.toArray [.ref (ad 0), .int a1]) below meth c H locs 0 0 (MQ below (va_Qi (fun r (_ : Unit) => r = r0) (fun _ t => zz_B D A (zg_W ML ad cA σf) (zg_T ML cA) t) A) (List.toArray [.ref (ad 0), .int a1]) s 0 0 A) (F0 m 17 ls []) := by
    intro k17_
    induction k17_ with
    | zero =>
        intro x2 σ hf17_ H17_ locs17_ ls17_ Z17_ hl17_
        exact zNone hf17_
    | succ k17_ ih17_ =>
        intro x2 σ hf17_ H17_ locs17_ ls17_ Z17_ hl17_
        replace hf17_ : B_X7_deal_17 a1 (L_X7_deal_17 a1 k17_) x2 σ = some (r0, σf) := hf17_
        unfold B_X7_deal_17 at hf17_
        refine lv_iload_n hx hb dX7_deal_17 rfl (lv_at hl17_ 2 rfl) ?_
        refine lv_iload_n hx hb dX7_deal_18 rfl (lv_at hl17_ 1 rfl) ?_
        refine lv_icmp_ge (tgt := 70) hx hb dX7_deal_19 (by decide) (fun b1 => ?_) (fun b1 => ?_)
        · have hf2 := zYes hf17_ b1
          clear hf17_
          refine lv_iload_n hx hb dX7_deal_70 rfl (lv_at hl17_ 2 rfl) ?_
          exact zy_iret X hr hlk Z17_ (zEnd hf2) dX7_deal_71
        · have hf3 := zNot hf17_ b1
          clear hf17_
          refine lv_aload_n hx hb dX7_deal_22 rfl (lv_at hl17_ 0 rfl) ?_
          refine zy_get (v := .ref (ad 1)) X Z17_ mL_ok mk_0 rfl rfl (fun w h => List.mem_cons_of_mem _ (List.mem_append_right _ h)) 0 rfl (zz_m 3 rfl) rfl dX7_deal_23 ?_
          refine lv_iconst (v := 0) hx hb dX7_deal_26 (by decide) ?_
          refine zy_ild X Z17_ mL_ok mk_1 ml_1 (zz_in 0 3047 rfl) dX7_deal_27 ?_
          refine zz_v (v := σ 1 0) rfl ?_
          refine lv_bipush (v := 9) hx hb dX7_deal_28 (by decide) ?_
          refine lv_icmp_ge (tgt := 70) hx hb dX7_deal_30 (by decide) (fun b4 => ?_) (fun b4 => ?_)
          · have hf5 := zYes hf3 b4
            clear hf3
            refine lv_iload_n hx hb dX7_deal_70 rfl (lv_at hl17_ 2 rfl) ?_
            exact zy_iret X hr hlk Z17_ (zEnd hf5) dX7_deal_71
          · have hf6 := zNot hf3 b4
            clear hf3
            refine lv_aload_n hx hb dX7_deal_33 rfl (lv_at hl17_ 0 rfl) ?_
            obtain ⟨r7, σ8, hc9, hf10⟩ := zBd hf6
            clear hf6
            refine zy_ci (r0 := r7) (WS1 := zg_W ML ad cA σ8) (TYS1 := zg_T ML cA) Z17_ (va_runV (As := []) (rest := []) X (c_X7_drawn l D V ad cA  σ r7 σ8 hc9 H17_.size) (cwV 0 hts gX7_deal_X7_drawn rfl rfl rfl ⟨rfl, zh_X7_drawn⟩ ⟨Nat.le_of_ble_eq_true rfl, Nat.le_of_ble_eq_true rfl⟩) (zy_pV (ci := 7) Z17_ mL_ok mk_0 rfl rfl) rfl rfl hl17_.1 rfl (lv_room (Nat.le_of_ble_eq_true rfl)) dX7_deal_34 ⟨Nat.le_of_ble_eq_true rfl, Nat.le_of_ble_eq_true rfl⟩) (fun H11 lo12 Z13 => ?_)
            clear Z17_ hc9
            refine lv_bipush (v := 6) hx hb dX7_deal_37 (by decide) ?_
            refine lv_irem hx hb dX7_deal_39 (by decide) ?_
            refine lv_istore_n (lv' := [(3, .int (r7 - r7 / 6 * 6)), (0, .ref (ad 0)), (1, .int a1), (2, .int x2)]) hx hb dX7_deal_40 rfl hl17_ (by decide) rfl (fun ls15 hl14 => ?_)
            clear hl17_
            refine lv_aload_n hx hb dX7_deal_41 rfl (lv_at hl14 1 rfl) ?_
            obtain ⟨r16, σ17, hc18, hf19⟩ := zBd hf10
            clear hf10
            refine zy_ci (r0 := r16) (WS1 := zg_W ML ad cA σ17) (TYS1 := zg_T ML cA) Z13 (va_runV (As := []) (rest := []) X (c_X7_drawn l D V ad cA  σ8 r16 σ17 hc18 H11.size) (cwV 0 hts gX7_deal_X7_drawn rfl rfl rfl ⟨rfl, zh_X7_drawn⟩ ⟨Nat.le_of_ble_eq_true rfl, Nat.le_of_ble_eq_true rfl⟩) (zy_pV (ci := 7) Z13 mL_ok mk_0 rfl rfl) rfl rfl hl14.1 rfl (lv_room (Nat.le_of_ble_eq_true rfl)) dX7_deal_42 ⟨Nat.le_of_ble_eq_true rfl, Nat.le_of_ble_eq_true rfl⟩) (fun H20 lo21 Z22 => ?_)
            clear Z13 hc18
            refine lv_bipush (v := 12) hx hb dX7_deal_45 (by decide) ?_
            refine lv_irem hx hb dX7_deal_47 (by decide) ?_
            refine lv_istore (lv' := [(4, .int (r16 - r16 / 12 * 12)), (3, .int (r7 - r7 / 6 * 6)), (0, .ref (ad 0)), (1, .int a1), (2, .int x2)]) hx hb dX7_deal_48 hl14 (by decide) rfl (fun ls24 hl23 => ?_)
            clear hl14
            refine lv_aload_n hx hb dX7_deal_50 rfl (lv_at hl23 2 rfl) ?_
            refine lv_iload_n hx hb dX7_deal_51 rfl (lv_at hl23 1 rfl) ?_
            refine lv_iload hx hb dX7_deal_52 (lv_at hl23 0 rfl) ?_
            refine lv_aload_n hx hb dX7_deal_54 rfl (lv_at hl23 2 rfl) ?_
            obtain ⟨r25, σ26, hc27, hf28⟩ := zBd hf19
            clear hf19
            refine zy_ci (r0 := r25) (WS1 := zg_W ML ad cA σ26) (TYS1 := zg_T ML cA) Z22 (va_runV (As := []) (rest := [.int (r16 - r16 / 12 * 12), .int (r7 - r7 / 6 * 6), .ref (ad 0)]) X (c_X7_drawn l D V ad cA  σ17 r25 σ26 hc27 H20.size) (cwV 0 hts gX7_deal_X7_drawn rfl rfl rfl ⟨rfl, zh_X7_drawn⟩ ⟨Nat.le_of_ble_eq_true rfl, Nat.le_of_ble_eq_true rfl⟩) (zy_pV (ci := 7) Z22 mL_ok mk_0 rfl rfl) rfl rfl hl23.1 rfl (lv_room (Nat.le_of_ble_eq_true rfl)) dX7_deal_55 ⟨Nat.le_of_ble_eq_true rfl, Nat.le_of_ble_eq_true rfl⟩) (fun H29 lo30 Z31 => ?_)
            clear Z22 hc27
            refine lv_bipush (v := 40) hx hb dX7_deal_58 (by decide) ?_
            refine lv_irem hx hb dX7_deal_60 (by decide) ?_
            obtain ⟨r32, σ33, hc34, hf35⟩ := zBd hf28
            clear hf28
            refine zy_cv (WS1 := zg_W ML ad cA σ33) (TYS1 := zg_T ML cA) Z31 (va_runV (As := [.int (r7 - r7 / 6 * 6), .int (r16 - r16 / 12 * 12), .int (r25 - r25 / 40 * 40)]) (rest := []) X (c_X7_comes l D V ad cA (r7 - r7 / 6 * 6) (r16 - r16 / 12 * 12) (r25 - r25 / 40 * 40) σ26 r32 σ33 hc34 H29.size) (cwV 3 hts gX7_deal_X7_comes rfl rfl rfl ⟨rfl, zh_X7_comes⟩ ⟨Nat.le_of_ble_eq_true rfl, Nat.le_of_ble_eq_true rfl⟩) (zy_pV (ci := 7) Z31 mL_ok mk_0 rfl rfl) rfl rfl hl23.1 rfl (lv_room (Nat.le_of_ble_eq_true rfl)) dX7_deal_61 ⟨Nat.le_of_ble_eq_true rfl, Nat.le_of_ble_eq_true rfl⟩) (fun H36 lo37 Z38 => ?_)
            clear Z31 hc34
            refine lv_iinc (v := (x2 + 1)) (lv' := [(2, .int (x2 + 1)), (4, .int (r16 - r16 / 12 * 12)), (3, .int (r7 - r7 / 6 * 6)), (0, .ref (ad 0)), (1, .int a1)]) hx hb dX7_deal_64 hl23 (k := 4) rfl rfl (by decide) rfl (fun ls40 hl39 => ?_)
            clear hl23
            refine lv_goto (tgt := 17) hx hb dX7_deal_67 (by decide) ?_
            exact ih17_ (x2 + 1) σ33 hf35 _ _ _ Z38 (lv_sub hl39 [3, 4, 0] rfl)
  refine lv_iload_n hx hb dX7_deal_0 rfl (lv_at hl 1 rfl) ?_
  refine lv_i2l (v := Int32.toInt64 a1) hx hb dX7_deal_1 rfl ?_
  refine lv_lconst (v := 1) hx hb dX7_deal_2 (by decide) ?_
  refine zz_vl (v := Int32.toInt64 1) (by decide) ?_
  refine lv_ldc2 (v := 9) hx hb hown (hts _ (zz_m 1 rfl)) dX7_deal_3 ?_
  refine zz_vl (v := Int32.toInt64 9) (by decide) ?_
  obtain ⟨r41, σ42, hc43, hf44⟩ := zBd hf
  clear hf
  refine zy_ci (r0 := r41) (WS1 := zg_W ML ad cA σ42) (TYS1 := zg_T ML cA) Z (va_runS (As := [.long (Int32.toInt64 a1), .long (Int32.toInt64 1), .long (Int32.toInt64 9)]) (rest := []) X (c_X7_isIn l D V ad cA (Int32.toInt64 a1) (Int32.toInt64 1) (Int32.toInt64 9) σ r41 σ42 hc43 s.heap.size) (va_cwS 3 hts gX7_deal_X7_isIn rfl rfl rfl zh_X7_isIn ⟨Nat.le_of_ble_eq_true rfl, Nat.le_of_ble_eq_true rfl⟩) (zz_pS Z) rfl rfl hl.1 rfl (lv_room (Nat.le_of_ble_eq_true rfl)) dX7_deal_6 ⟨Nat.le_of_ble_eq_true rfl, Nat.le_of_ble_eq_true rfl⟩) (fun H45 lo46 Z47 => ?_)
  clear Z hc43
  refine lv_if_ne (tgt := 15) hx hb dX7_deal_9 (by decide) (fun b48 => ?_) (fun b48 => ?_)
  · have hf49 := zNot hf44 b48
    clear hf44
    refine lv_iconst (v := 0) hx hb dX7_deal_15 (by decide) ?_
    refine lv_istore_n (lv' := [(2, .int 0), (0, .ref (ad 0)), (1, .int a1)]) hx hb dX7_deal_16 rfl hl (by decide) rfl (fun ls51 hl50 => ?_)
    clear hl
    exact b17_ zfu 0 σ42 hf49 _ _ _ Z47 (lv_sub hl50 [1, 2, 0] rfl)
  · have hf52 := zYes hf44 b48
    clear hf44
    refine lv_ldc (v := (-1000000001)) hx hb hown (hts _ (zz_m 2 rfl)) dX7_deal_12 ?_
    exact zy_iret X hr hlk Z47 (zEnd hf52) dX7_deal_14
def f_X7_fee  (σ : zg_S) : Option (Int32 × zg_S) := zbd (f_X7_counts 1 σ) (fun (r1 : Int32) (σ2 : zg_S) => (if 0 ≤ r1 then zlet (zg_up σ2 14 99 (σ2 1 3)) (fun (σ12 : zg_S) => zlet (zg_up σ12 14 116 (σ12 1 5)) (fun (σ18 : zg_S) => zbd (f_X7_worked r1 σ18) (fun (r24 : Int32) (σ25 : zg_S) => some (r24, σ25)))) else some (σ2 1 3, σ2)))
set_option maxHeartbeats 4000000 in
set_option maxRecDepth 100000 in
theorem c_X7_fee (l : Launch) (D : va_G) (V : zz_V) (ad : Nat → Nat) (cA : Nat → ClassId)   (σ : zg_S) (r0 : Int32) (σf : zg_S) (hf : f_X7_fee  σ = some (r0, σf)) : zM_I l yX7_fee wsX7_fee 2 47 D V ML ad cA [.ref (ad 0)] σ r0 σf := by
  intro sz
  refine Met.ofW (cc := cX7_fee) (maxL := 2) (ret := (some .int)) (by decide) rfl ?_
  intro p e s m args below meth c s₁ B hml hv
  obtain ⟨rfl, hC⟩ := hv
  have hx := B.exec
  have hb := B.bytes
  have hr := B.returns
  have hts := atoms_spec (ws := wsX7_fee) B.pre
  have hown : s.vm.findClass RX7 = some m.cls := findClass_of_methodNamed B.named
  have hlk := B.notSynchronized
  have X : CallFix p m c cX7_fee 2 s _ wsX7_fee RX7 := ⟨hx, hb, hml, hown, hts⟩
  have Z := zz_enter hC
  generalize va_A (zg_W ML ad cA σ) sz = A at Z ⊢
  have hl := lv_entry ([.ref (ad 0)]) (n := 2) (Nat.le_of_ble_eq_true rfl)
  rw [lg_entry_eq]
  generalize (lg_sl ([.ref (ad 0)]) ++ List.replicate (2 - (lg_sl ([.ref (ad 0)])).length) Slot.unset).toArray = ls at hl ⊢
  have hl : lv_has ls 2 [(0, .ref (ad 0))] := hl
  unfold f_X7_fee at hf
  refine lv_aload_n hx hb dX7_fee_0 rfl (lv_at hl 0 rfl) ?_
  refine lv_iconst (v := 1) hx hb dX7_fee_1 (by decide) ?_
  obtain ⟨r1, σ2, hc3, hf4⟩ := zBd hf
  clear hf
  refine zy_ci (r0 := r1) (WS1 := zg_W ML ad cA σ2) (TYS1 := zg_T ML cA) Z (va_runV (As := [.int 1]) (rest := []) X (c_X7_counts l D V ad cA 1 σ r1 σ2 hc3 s.heap.size) (cwV 1 hts gX7_fee_X7_counts rfl rfl rfl ⟨rfl, zh_X7_counts⟩ ⟨Nat.le_of_ble_eq_true rfl, Nat.le_of_ble_eq_true rfl⟩) (zy_pV (ci := 7) Z mL_ok mk_0 rfl rfl) rfl rfl hl.1 rfl (lv_room (Nat.le_of_ble_eq_true rfl)) dX7_fee_2 ⟨Nat.le_of_ble_eq_true rfl, Nat.le_of_ble_eq_true rfl⟩) (fun H5 lo6 Z7 => ?_)
  clear Z hc3
  refine lv_istore_n (lv' := [(1, .int r1), (0, .ref (ad 0))]) hx hb dX7_fee_5 rfl hl (by decide) rfl (fun ls9 hl8 => ?_)
  clear hl
  refine lv_iload_n hx hb dX7_fee_6 rfl (lv_at hl8 0 rfl) ?_
  refine lv_if_ge (tgt := 17) hx hb dX7_fee_7 (by decide) (fun b10 => ?_) (fun b10 => ?_)
  · have hf11 := zYes hf4 b10
    clear hf4
    refine lv_aload_n hx hb dX7_fee_17 rfl (lv_at hl8 1 rfl) ?_
    refine zy_get (v := .ref (ad 14)) X Z7 mL_ok mk_0 rfl rfl (fun w h => List.mem_cons_of_mem _ (List.mem_append_right _ h)) 25 rfl (zz_m 2 rfl) rfl dX7_fee_18 ?_
    refine lv_bipush (v := 99) hx hb dX7_fee_21 (by decide) ?_
    refine lv_aload_n hx hb dX7_fee_23 rfl (lv_at hl8 1 rfl) ?_
    refine zy_get (v := .ref (ad 1)) X Z7 mL_ok mk_0 rfl rfl (fun w h => List.mem_cons_of_mem _ (List.mem_append_right _ h)) 0 rfl (zz_m 1 rfl) rfl dX7_fee_24 ?_
    refine lv_iconst (v := 3) hx hb dX7_fee_27 (by decide) ?_
    refine zy_ild X Z7 mL_ok mk_1 ml_1 (zz_in 3 3047 rfl) dX7_fee_28 ?_
    refine zz_v (v := σ2 1 3) rfl ?_
    obtain ⟨σ12, es13, hf14⟩ := zLet hf11
    clear hf11
    refine zy_ist (σ' := σ12) X Z7 mL_ok mk_14 ml_14 (zz_in 99 128 rfl) es13 dX7_fee_29 (fun H15 lo16 Z17 => ?_)
    clear Z7 es13
    refine lv_aload_n hx hb dX7_fee_30 rfl (lv_at hl8 1 rfl) ?_
    refine zy_get (v := .ref (ad 14)) X Z17 mL_ok mk_0 rfl rfl (fun w h => List.mem_cons_of_mem _ (List.mem_append_right _ h)) 25 rfl (zz_m 2 rfl) rfl dX7_fee_31 ?_
    refine lv_bipush (v := 116) hx hb dX7_fee_34 (by decide) ?_
    refine lv_aload_n hx hb dX7_fee_36 rfl (lv_at hl8 1 rfl) ?_
    refine zy_get (v := .ref (ad 1)) X Z17 mL_ok mk_0 rfl rfl (fun w h => List.mem_cons_of_mem _ (List.mem_append_right _ h)) 0 rfl (zz_m 1 rfl) rfl dX7_fee_37 ?_
    refine lv_iconst (v := 5) hx hb dX7_fee_40 (by decide) ?_
    refine zy_ild X Z17 mL_ok mk_1 ml_1 (zz_in 5 3047 rfl) dX7_fee_41 ?_
    refine zz_v (v := σ12 1 5) rfl ?_
    obtain ⟨σ18, es19, hf20⟩ := zLet hf14
    clear hf14
    refine zy_ist (σ' := σ18) X Z17 mL_ok mk_14 ml_14 (zz_in 116 128 rfl) es19 dX7_fee_42 (fun H21 lo22 Z23 => ?_)
    clear Z17 es19
    refine lv_aload_n hx hb dX7_fee_43 rfl (lv_at hl8 1 rfl) ?_
    refine lv_iload_n hx hb dX7_fee_44 rfl (lv_at hl8 0 rfl) ?_
    obtain ⟨r24, σ25, hc26, hf27⟩ := zBd hf20
    clear hf20
    refine zy_ci (r0 := r24) (WS1 := zg_W ML ad cA σ25) (TYS1 := zg_T ML cA) Z23 (va_runV (As := [.int r1]) (rest := []) X (c_X7_worked l D V ad cA r1 σ18 r24 σ25 hc26 H21.size) (cwV 1 hts gX7_fee_X7_worked rfl rfl rfl ⟨rfl, zh_X7_worked⟩ ⟨Nat.le_of_ble_eq_true rfl, Nat.le_of_ble_eq_true rfl⟩) (zy_pV (ci := 7) Z23 mL_ok mk_0 rfl rfl) rfl rfl hl8.1 rfl (lv_room (Nat.le_of_ble_eq_true rfl)) dX7_fee_45 ⟨Nat.le_of_ble_eq_true rfl, Nat.le_of_ble_eq_true rfl⟩) (fun H28 lo29 Z30 => ?_)
    clear Z23 hc26
    exact zy_iret X hr hlk Z30 (zEnd hf27) dX7_fee_48
  · have hf31 := zNot hf4 b10
    clear hf4
    refine lv_aload_n hx hb dX7_fee_10 rfl (lv_at hl8 1 rfl) ?_
    refine zy_get (v := .ref (ad 1)) X Z7 mL_ok mk_0 rfl rfl (fun w h => List.mem_cons_of_mem _ (List.mem_append_right _ h)) 0 rfl (zz_m 1 rfl) rfl dX7_fee_11 ?_
    refine lv_iconst (v := 3) hx hb dX7_fee_14 (by decide) ?_
    refine zy_ild X Z7 mL_ok mk_1 ml_1 (zz_in 3 3047 rfl) dX7_fee_15 ?_
    refine zz_v (v := σ2 1 3) rfl ?_
    exact zy_iret X hr hlk Z7 (zEnd hf31) dX7_fee_16
def B_X7_feed_47 (a1 : Int32) (a2 : Int32) (a3 : Int32) (rec18_ : Int32 → zg_S → Option (Int32 × zg_S)) (x4 : Int32) (y0 : Int32) (σ : zg_S) : Option (Int32 × zg_S) := zlet ((y0 >>> ((24 - (8 * (x4 - x4 / 4 * 4))) &&& 31)) &&& 255) (fun (y3 : Int32) => (if zin (σ 0 14) 96 = true then zlet (zg_up σ 13 (Int32.toNatClampNeg (σ 0 14)) y3) (fun (σ9 : zg_S) => zlet (zg_up σ9 0 14 ((σ9 0 14) + 1)) (fun (σ15 : zg_S) => rec18_ (x4 + 1) σ15)) else none))
def B_X7_feed_18 (a1 : Int32) (a2 : Int32) (a3 : Int32) (rec18_ : Int32 → zg_S → Option (Int32 × zg_S)) (x4 : Int32) (σ : zg_S) : Option (Int32 × zg_S) := (if 12 ≤ x4 then some (σ 0 14, σ) else (if 4 ≤ x4 then (if 8 ≤ x4 then B_X7_feed_47 a1 a2 a3 rec18_ x4 a3 σ else B_X7_feed_47 a1 a2 a3 rec18_ x4 a2 σ) else B_X7_feed_47 a1 a2 a3 rec18_ x4 a1 σ))
def L_X7_feed_18 (a1 : Int32) (a2 : Int32) (a3 : Int32) : Nat → Int32 → zg_S → Option (Int32 × zg_S) := zfix (fun _ _ => none) (B_X7_feed_18 a1 a2 a3)
def f_X7_feed (a1 : Int32) (a2 : Int32) (a3 : Int32) (σ : zg_S) : Option (Int32 × zg_S) := (if ((σ 0 14) + 12) ≤ 96 then L_X7_feed_18 a1 a2 a3 zfu 0 σ else some ((-1000000003), σ))
set_option maxHeartbeats 4000000 in
set_option maxRecDepth 100000 in
theorem c_X7_feed (l : Launch) (D : va_G) (V : zz_V) (ad : Nat → Nat) (cA : Nat → ClassId) (a1 : Int32) (a2 : Int32) (a3 : Int32)  (σ : zg_S) (r0 : Int32) (σf : zg_S) (hf : f_X7_feed a1 a2 a3 σ = some (r0, σf)) : zM_I l yX7_feed wsX7_feed 0 0 D V ML ad cA [.ref (ad 0), .int a1, .int a2, .int a3] σ r0 σf := by
  intro sz
  refine Met.ofW (cc := cX7_feed) (maxL := 6) (ret := (some .int)) (by decide) rfl ?_
  intro p e s m args below meth c s₁ B hml hv
  obtain ⟨rfl, hC⟩ := hv
  have hx := B.exec
  have hb := B.bytes
  have hr := B.returns
  have hts := atoms_spec (ws := wsX7_feed) B.pre
  have hown : s.vm.findClass RX7 = some m.cls := findClass_of_methodNamed B.named
  have hlk := B.notSynchronized
  have X : CallFix p m c cX7_feed 6 s _ wsX7_feed RX7 := ⟨hx, hb, hml, hown, hts⟩
  have Z := zz_enter hC
  generalize va_A (zg_W ML ad cA σ) sz = A at Z ⊢
  have hl := lv_entry ([.ref (ad 0), .int a1, .int a2, .int a3]) (n := 6) (Nat.le_of_ble_eq_true rfl)
  rw [lg_entry_eq]
  generalize (lg_sl ([.ref (ad 0), .int a1, .int a2, .int a3]) ++ List.replicate (6 - (lg_sl ([.ref (ad 0), .int a1, .int a2, .int a3])).length) Slot.unset).toArray = ls at hl ⊢
  have hl : lv_has ls 6 [(0, .ref (ad 0)), (1, .int a1), (2, .int a2), (3, .int a3)] := hl
  unfold f_X7_feed at hf
  have b18_ : ∀ (k18_ : Nat) (x4 : Int32) (σ : zg_S), L_X7_feed_18 a1 a2 a3 k18_ x4 σ = some (r0, σf) → ∀ (H : Heap) (locs : List Loc) (ls : Array Slot), zz_S D V A s (zg_W ML ad cA σ) (zg_T ML cA) H locs → lv_has ls 6 [(0, .ref (ad 0)), (1, .int a1), (2, .int a2), (3, .int a3), (4, .int x4)] → W p l e (headSpec wsX7_feed { frames := 0, cells := 0, slots := 0, locals := 0 }).room s m (List.toArray [.ref (ad 0), .int a1, .int a2, .int a3]) below meth c H locs 0 0 (MQ below (va_Qi (fun r (_ : Unit) => r = r0) (fun _ t => zz_B D A (zg_W ML ad cA σf) (zg_T ML cA) t) A) (List.toArray [.ref (ad 0), .int a1, .int a2, .int a3]) s 0 0 A) (F0 m 18 ls []) := by
    intro k18_
    induction k18_ with
    | zero =>
        intro x4 σ hf18_ H18_ locs18_ ls18_ Z18_ hl18_
        exact zNone hf18_
    | succ k18_ ih18_ =>
        intro x4 σ hf18_ H18_ locs18_ ls18_ Z18_ hl18_
        replace hf18_ : B_X7_feed_18 a1 a2 a3 (L_X7_feed_18 a1 a2 a3 k18_) x4 σ = some (r0, σf) := hf18_
        unfold B_X7_feed_18 at hf18_
        have b47_ : ∀ (x4 : Int32) (y0 : Int32) (σ : zg_S), B_X7_feed_47 a1 a2 a3 (L_X7_feed_18 a1 a2 a3 k18_) x4 y0 σ = some (r0, σf) → ∀ (H : Heap) (locs : List Loc) (ls : Array Slot), zz_S D V A s (zg_W ML ad cA σ) (zg_T ML cA) H locs → lv_has ls 6 [(0, .ref (ad 0)), (1, .int a1), (2, .int a2), (3, .int a3), (4, .int x4)] → W p l e (headSpec wsX7_feed { frames := 0, cells := 0, slots := 0, locals := 0 }).room s m (List.toArray [.ref (ad 0), .int a1, .int a2, .int a3]) below meth c H locs 0 0 (MQ below (va_Qi (fun r (_ : Unit) => r = r0) (fun _ t => zz_B D A (zg_W ML ad cA σf) (zg_T ML cA) t) A) (List.toArray [.ref (ad 0), .int a1, .int a2, .int a3]) s 0 0 A) (F0 m 47 ls [.int y0]) := by
          intro x4 y0 σ hf47_ H47_ locs47_ ls47_ Z47_ hl47_
          unfold B_X7_feed_47 at hf47_
          refine lv_istore (lv' := [(5, .int y0), (0, .ref (ad 0)), (1, .int a1), (2, .int a2), (3, .int a3), (4, .int x4)]) hx hb dX7_feed_47 hl47_ (by decide) rfl (fun ls2 hl1 => ?_)
          clear hl47_
          refine lv_aload_n hx hb dX7_feed_49 rfl (lv_at hl1 1 rfl) ?_
          refine zy_get (v := .ref (ad 13)) X Z47_ mL_ok mk_0 rfl rfl (fun w h => List.mem_cons_of_mem _ (List.mem_append_right _ h)) 13 rfl (zz_m 3 rfl) rfl dX7_feed_50 ?_
          refine lv_aload_n hx hb dX7_feed_53 rfl (lv_at hl1 1 rfl) ?_
          refine zy_get (v := .int (σ 0 14)) X Z47_ mL_ok mk_0 rfl rfl (fun w h => List.mem_cons_of_mem _ (List.mem_append_right _ h)) 14 rfl (zz_m 1 rfl) rfl dX7_feed_54 ?_
          refine lv_iload hx hb dX7_feed_57 (lv_at hl1 0 rfl) ?_
          refine lv_bipush (v := 24) hx hb dX7_feed_59 (by decide) ?_
          refine lv_bipush (v := 8) hx hb dX7_feed_61 (by decide) ?_
          refine lv_iload hx hb dX7_feed_63 (lv_at hl1 5 rfl) ?_
          refine lv_iconst (v := 4) hx hb dX7_feed_65 (by decide) ?_
          refine lv_irem hx hb dX7_feed_66 (by decide) ?_
          refine lv_imul hx hb dX7_feed_67 ?_
          refine lv_isub hx hb dX7_feed_68 ?_
          refine lv_ishr hx hb dX7_feed_69 ?_
          refine lv_sipush (v := 255) hx hb dX7_feed_70 (by decide) ?_
          refine lv_iand hx hb dX7_feed_73 ?_
          obtain ⟨y3, ey4, hf5⟩ := zLet hf47_
          clear hf47_
          refine zz_v (v := y3) ey4.symm ?_
          clear ey4
          obtain ⟨⟨i6, j7⟩, hf8⟩ := zG hf5
          clear hf5
          obtain ⟨σ9, es10, hf11⟩ := zLet hf8
          clear hf8
          refine zy_ist (σ' := σ9) X Z47_ mL_ok mk_13 ml_13 i6 es10 dX7_feed_74 (fun H12 lo13 Z14 => ?_)
          clear Z47_ es10
          refine lv_aload_n hx hb dX7_feed_75 rfl (lv_at hl1 1 rfl) ?_
          refine lv_dup hx hb dX7_feed_76 rfl ?_
          refine zy_get (v := .int (σ9 0 14)) X Z14 mL_ok mk_0 rfl rfl (fun w h => List.mem_cons_of_mem _ (List.mem_append_right _ h)) 14 rfl (zz_m 1 rfl) rfl dX7_feed_77 ?_
          refine lv_iconst (v := 1) hx hb dX7_feed_80 (by decide) ?_
          refine lv_iadd hx hb dX7_feed_81 ?_
          obtain ⟨σ15, es16, hf17⟩ := zLet hf11
          clear hf11
          refine zy_put (v := (σ9 0 14) + 1) (σ' := σ15) X Z14 mL_ok mk_0 rfl rfl (fun w h => List.mem_cons_of_mem _ (List.mem_append_right _ h)) tyX7 tyX7_ok nmX7 14 rfl (zz_m 1 rfl) rfl rfl rfl (fun _ => rfl) (fun _ => rfl) es16 dX7_feed_82 (fun H18 lo19 Z20 => ?_)
          clear Z14 es16
          refine lv_iinc (v := (x4 + 1)) (lv' := [(4, .int (x4 + 1)), (5, .int y0), (0, .ref (ad 0)), (1, .int a1), (2, .int a2), (3, .int a3)]) hx hb dX7_feed_85 hl1 (k := 5) rfl rfl (by decide) rfl (fun ls22 hl21 => ?_)
          clear hl1
          refine lv_goto (tgt := 18) hx hb dX7_feed_88 (by decide) ?_
          exact ih18_ (x4 + 1) σ15 hf17 _ _ _ Z20 (lv_sub hl21 [2, 3, 4, 5, 0] rfl)
        refine lv_iload hx hb dX7_feed_18 (lv_at hl18_ 4 rfl) ?_
        refine lv_bipush (v := 12) hx hb dX7_feed_20 (by decide) ?_
        refine lv_icmp_ge (tgt := 91) hx hb dX7_feed_22 (by decide) (fun b23 => ?_) (fun b23 => ?_)
        · have hf24 := zYes hf18_ b23
          clear hf18_
          refine lv_aload_n hx hb dX7_feed_91 rfl (lv_at hl18_ 0 rfl) ?_
          refine zy_get (v := .int (σ 0 14)) X Z18_ mL_ok mk_0 rfl rfl (fun w h => List.mem_cons_of_mem _ (List.mem_append_right _ h)) 14 rfl (zz_m 1 rfl) rfl dX7_feed_92 ?_
          exact zy_iret X hr hlk Z18_ (zEnd hf24) dX7_feed_95
        · have hf25 := zNot hf18_ b23
          clear hf18_
          refine lv_iload hx hb dX7_feed_25 (lv_at hl18_ 4 rfl) ?_
          refine lv_iconst (v := 4) hx hb dX7_feed_27 (by decide) ?_
          refine lv_icmp_ge (tgt := 35) hx hb dX7_feed_28 (by decide) (fun b26 => ?_) (fun b26 => ?_)
          · have hf27 := zYes hf25 b26
            clear hf25
            refine lv_iload hx hb dX7_feed_35 (lv_at hl18_ 4 rfl) ?_
            refine lv_bipush (v := 8) hx hb dX7_feed_37 (by decide) ?_
            refine lv_icmp_ge (tgt := 46) hx hb dX7_feed_39 (by decide) (fun b28 => ?_) (fun b28 => ?_)
            · have hf29 := zYes hf27 b28
              clear hf27
              refine lv_iload_n hx hb dX7_feed_46 rfl (lv_at hl18_ 3 rfl) ?_
              exact b47_ x4 a3 σ hf29 _ _ _ Z18_ (lv_sub hl18_ [0, 1, 2, 3, 4] rfl)
            · have hf30 := zNot hf27 b28
              clear hf27
              refine lv_iload_n hx hb dX7_feed_42 rfl (lv_at hl18_ 2 rfl) ?_
              refine lv_goto (tgt := 47) hx hb dX7_feed_43 (by decide) ?_
              exact b47_ x4 a2 σ hf30 _ _ _ Z18_ (lv_sub hl18_ [0, 1, 2, 3, 4] rfl)
          · have hf31 := zNot hf25 b26
            clear hf25
            refine lv_iload_n hx hb dX7_feed_31 rfl (lv_at hl18_ 1 rfl) ?_
            refine lv_goto (tgt := 47) hx hb dX7_feed_32 (by decide) ?_
            exact b47_ x4 a1 σ hf31 _ _ _ Z18_ (lv_sub hl18_ [0, 1, 2, 3, 4] rfl)
  refine lv_aload_n hx hb dX7_feed_0 rfl (lv_at hl 0 rfl) ?_
  refine zy_get (v := .int (σ 0 14)) X Z mL_ok mk_0 rfl rfl (fun w h => List.mem_cons_of_mem _ (List.mem_append_right _ h)) 14 rfl (zz_m 1 rfl) rfl dX7_feed_1 ?_
  refine lv_bipush (v := 12) hx hb dX7_feed_4 (by decide) ?_
  refine lv_iadd hx hb dX7_feed_6 ?_
  refine lv_bipush (v := 96) hx hb dX7_feed_7 (by decide) ?_
  refine lv_icmp_le (tgt := 15) hx hb dX7_feed_9 (by decide) (fun b32 => ?_) (fun b32 => ?_)
  · have hf33 := zYes hf b32
    clear hf
    refine lv_iconst (v := 0) hx hb dX7_feed_15 (by decide) ?_
    refine lv_istore (lv' := [(4, .int 0), (0, .ref (ad 0)), (1, .int a1), (2, .int a2), (3, .int a3)]) hx hb dX7_feed_16 hl (by decide) rfl (fun ls35 hl34 => ?_)
    clear hl
    exact b18_ zfu 0 σ hf33 _ _ _ Z (lv_sub hl34 [1, 2, 3, 4, 0] rfl)
  · have hf36 := zNot hf b32
    clear hf
    refine lv_ldc (v := (-1000000003)) hx hb hown (hts _ (zz_m 2 rfl)) dX7_feed_12 ?_
    exact zy_iret X hr hlk Z (zEnd hf36) dX7_feed_14
def B_X7_fine_60 (a1 : Int32) (x2 : Int32) (y0 : Int32) (y1 : Int32) (σ : zg_S) : Option (Int32 × zg_S) := (if zin y1 128 = true then zlet (zg_up σ 14 (Int32.toNatClampNeg y1) y0) (fun (σ4 : zg_S) => zbd (f_X7_worked x2 σ4) (fun (r10 : Int32) (σ11 : zg_S) => some (r10, σ11))) else none)
def f_X7_fine (a1 : Int32) (σ : zg_S) : Option (Int32 × zg_S) := zbd (f_X7_isStall a1 σ) (fun (r17 : Int32) (σ18 : zg_S) => (if r17 = 0 then some ((-1000000001), σ18) else zbd (f_X7_counts 2 σ18) (fun (r26 : Int32) (σ27 : zg_S) => (if 0 ≤ r26 then zbd (f_X7_of a1 2 σ27) (fun (r37 : Int32) (σ38 : zg_S) => zlet (zg_up σ38 14 103 r37) (fun (σ44 : zg_S) => zbd (f_X7_isShaded a1 σ44) (fun (r50 : Int32) (σ51 : zg_S) => (if r50 = 0 then B_X7_fine_60 a1 r26 0 115 σ51 else B_X7_fine_60 a1 r26 1 115 σ51)))) else zbd (f_X7_of a1 2 σ27) (fun (r61 : Int32) (σ62 : zg_S) => some (r61, σ62))))))
set_option maxHeartbeats 4000000 in
set_option maxRecDepth 100000 in
theorem c_X7_fine (l : Launch) (D : va_G) (V : zz_V) (ad : Nat → Nat) (cA : Nat → ClassId) (a1 : Int32)  (σ : zg_S) (r0 : Int32) (σf : zg_S) (hf : f_X7_fine a1 σ = some (r0, σf)) : zM_I l yX7_fine wsX7_fine 2 47 D V ML ad cA [.ref (ad 0), .int a1] σ r0 σf := by
  intro sz
  refine Met.ofW (cc := cX7_fine) (maxL := 3) (ret := (some .int)) (by decide) rfl ?_
  intro p e s m args below meth c s₁ B hml hv
  obtain ⟨rfl, hC⟩ := hv
  have hx := B.exec
  have hb := B.bytes
  have hr := B.returns
  have hts := atoms_spec (ws := wsX7_fine) B.pre
  have hown : s.vm.findClass RX7 = some m.cls := findClass_of_methodNamed B.named
  have hlk := B.notSynchronized
  have X : CallFix p m c cX7_fine 3 s _ wsX7_fine RX7 := ⟨hx, hb, hml, hown, hts⟩
  have Z := zz_enter hC
  generalize va_A (zg_W ML ad cA σ) sz = A at Z ⊢
  have hl := lv_entry ([.ref (ad 0), .int a1]) (n := 3) (Nat.le_of_ble_eq_true rfl)
  rw [lg_entry_eq]
  generalize (lg_sl ([.ref (ad 0), .int a1]) ++ List.replicate (3 - (lg_sl ([.ref (ad 0), .int a1])).length) Slot.unset).toArray = ls at hl ⊢
  have hl : lv_has ls 3 [(0, .ref (ad 0)), (1, .int a1)] := hl
  unfold f_X7_fine at hf
  have b60_ : ∀ (x2 : Int32) (y0 : Int32) (y1 : Int32) (σ : zg_S), B_X7_fine_60 a1 x2 y0 y1 σ = some (r0, σf) → ∀ (H : Heap) (locs : List Loc) (ls : Array Slot), zz_S D V A s (zg_W ML ad cA σ) (zg_T ML cA) H locs → lv_has ls 3 [(0, .ref (ad 0)), (2, .int x2)] → W p l e (headSpec wsX7_fine { frames := 2, cells := 0, slots := 0, locals := 47 }).room s m (List.toArray [.ref (ad 0), .int a1]) below meth c H locs 0 0 (MQ below (va_Qi (fun r (_ : Unit) => r = r0) (fun _ t => zz_B D A (zg_W ML ad cA σf) (zg_T ML cA) t) A) (List.toArray [.ref (ad 0), .int a1]) s 0 0 A) (F0 m 60 ls [.int y0, .int y1, .ref (ad 14)]) := by
    intro x2 y0 y1 σ hf60_ H60_ locs60_ ls60_ Z60_ hl60_
    unfold B_X7_fine_60 at hf60_
    obtain ⟨⟨i1, j2⟩, hf3⟩ := zG hf60_
    clear hf60_
    obtain ⟨σ4, es5, hf6⟩ := zLet hf3
    clear hf3
    refine zy_ist (σ' := σ4) X Z60_ mL_ok mk_14 ml_14 i1 es5 dX7_fine_60 (fun H7 lo8 Z9 => ?_)
    clear Z60_ es5
    refine lv_aload_n hx hb dX7_fine_61 rfl (lv_at hl60_ 0 rfl) ?_
    refine lv_iload_n hx hb dX7_fine_62 rfl (lv_at hl60_ 1 rfl) ?_
    obtain ⟨r10, σ11, hc12, hf13⟩ := zBd hf6
    clear hf6
    refine zy_ci (r0 := r10) (WS1 := zg_W ML ad cA σ11) (TYS1 := zg_T ML cA) Z9 (va_runV (As := [.int x2]) (rest := []) X (c_X7_worked l D V ad cA x2 σ4 r10 σ11 hc12 H7.size) (cwV 1 hts gX7_fine_X7_worked rfl rfl rfl ⟨rfl, zh_X7_worked⟩ ⟨Nat.le_of_ble_eq_true rfl, Nat.le_of_ble_eq_true rfl⟩) (zy_pV (ci := 7) Z9 mL_ok mk_0 rfl rfl) rfl rfl hl60_.1 rfl (lv_room (Nat.le_of_ble_eq_true rfl)) dX7_fine_63 ⟨Nat.le_of_ble_eq_true rfl, Nat.le_of_ble_eq_true rfl⟩) (fun H14 lo15 Z16 => ?_)
    clear Z9 hc12
    exact zy_iret X hr hlk Z16 (zEnd hf13) dX7_fine_66
  refine lv_aload_n hx hb dX7_fine_0 rfl (lv_at hl 0 rfl) ?_
  refine lv_iload_n hx hb dX7_fine_1 rfl (lv_at hl 1 rfl) ?_
  obtain ⟨r17, σ18, hc19, hf20⟩ := zBd hf
  clear hf
  refine zy_ci (r0 := r17) (WS1 := zg_W ML ad cA σ18) (TYS1 := zg_T ML cA) Z (va_runV (As := [.int a1]) (rest := []) X (c_X7_isStall l D V ad cA a1 σ r17 σ18 hc19 s.heap.size) (cwV 1 hts gX7_fine_X7_isStall rfl rfl rfl ⟨rfl, zh_X7_isStall⟩ ⟨Nat.le_of_ble_eq_true rfl, Nat.le_of_ble_eq_true rfl⟩) (zy_pV (ci := 7) Z mL_ok mk_0 rfl rfl) rfl rfl hl.1 rfl (lv_room (Nat.le_of_ble_eq_true rfl)) dX7_fine_2 ⟨Nat.le_of_ble_eq_true rfl, Nat.le_of_ble_eq_true rfl⟩) (fun H21 lo22 Z23 => ?_)
  clear Z hc19
  refine lv_if_ne (tgt := 11) hx hb dX7_fine_5 (by decide) (fun b24 => ?_) (fun b24 => ?_)
  · have hf25 := zNot hf20 b24
    clear hf20
    refine lv_aload_n hx hb dX7_fine_11 rfl (lv_at hl 0 rfl) ?_
    refine lv_iconst (v := 2) hx hb dX7_fine_12 (by decide) ?_
    obtain ⟨r26, σ27, hc28, hf29⟩ := zBd hf25
    clear hf25
    refine zy_ci (r0 := r26) (WS1 := zg_W ML ad cA σ27) (TYS1 := zg_T ML cA) Z23 (va_runV (As := [.int 2]) (rest := []) X (c_X7_counts l D V ad cA 2 σ18 r26 σ27 hc28 H21.size) (cwV 1 hts gX7_fine_X7_counts rfl rfl rfl ⟨rfl, zh_X7_counts⟩ ⟨Nat.le_of_ble_eq_true rfl, Nat.le_of_ble_eq_true rfl⟩) (zy_pV (ci := 7) Z23 mL_ok mk_0 rfl rfl) rfl rfl hl.1 rfl (lv_room (Nat.le_of_ble_eq_true rfl)) dX7_fine_13 ⟨Nat.le_of_ble_eq_true rfl, Nat.le_of_ble_eq_true rfl⟩) (fun H30 lo31 Z32 => ?_)
    clear Z23 hc28
    refine lv_istore_n (lv' := [(2, .int r26), (0, .ref (ad 0)), (1, .int a1)]) hx hb dX7_fine_16 rfl hl (by decide) rfl (fun ls34 hl33 => ?_)
    clear hl
    refine lv_iload_n hx hb dX7_fine_17 rfl (lv_at hl33 0 rfl) ?_
    refine lv_if_ge (tgt := 28) hx hb dX7_fine_18 (by decide) (fun b35 => ?_) (fun b35 => ?_)
    · have hf36 := zYes hf29 b35
      clear hf29
      refine lv_aload_n hx hb dX7_fine_28 rfl (lv_at hl33 1 rfl) ?_
      refine zy_get (v := .ref (ad 14)) X Z32 mL_ok mk_0 rfl rfl (fun w h => List.mem_cons_of_mem _ (List.mem_append_right _ h)) 25 rfl (zz_m 2 rfl) rfl dX7_fine_29 ?_
      refine lv_bipush (v := 103) hx hb dX7_fine_32 (by decide) ?_
      refine lv_aload_n hx hb dX7_fine_34 rfl (lv_at hl33 1 rfl) ?_
      refine lv_iload_n hx hb dX7_fine_35 rfl (lv_at hl33 2 rfl) ?_
      refine lv_iconst (v := 2) hx hb dX7_fine_36 (by decide) ?_
      obtain ⟨r37, σ38, hc39, hf40⟩ := zBd hf36
      clear hf36
      refine zy_ci (r0 := r37) (WS1 := zg_W ML ad cA σ38) (TYS1 := zg_T ML cA) Z32 (va_runV (As := [.int a1, .int 2]) (rest := [.int 103, .ref (ad 14)]) X (c_X7_of l D V ad cA a1 2 σ27 r37 σ38 hc39 H30.size) (cwV 2 hts gX7_fine_X7_of rfl rfl rfl ⟨rfl, zh_X7_of⟩ ⟨Nat.le_of_ble_eq_true rfl, Nat.le_of_ble_eq_true rfl⟩) (zy_pV (ci := 7) Z32 mL_ok mk_0 rfl rfl) rfl rfl hl33.1 rfl (lv_room (Nat.le_of_ble_eq_true rfl)) dX7_fine_37 ⟨Nat.le_of_ble_eq_true rfl, Nat.le_of_ble_eq_true rfl⟩) (fun H41 lo42 Z43 => ?_)
      clear Z32 hc39
      obtain ⟨σ44, es45, hf46⟩ := zLet hf40
      clear hf40
      refine zy_ist (σ' := σ44) X Z43 mL_ok mk_14 ml_14 (zz_in 103 128 rfl) es45 dX7_fine_40 (fun H47 lo48 Z49 => ?_)
      clear Z43 es45
      refine lv_aload_n hx hb dX7_fine_41 rfl (lv_at hl33 1 rfl) ?_
      refine zy_get (v := .ref (ad 14)) X Z49 mL_ok mk_0 rfl rfl (fun w h => List.mem_cons_of_mem _ (List.mem_append_right _ h)) 25 rfl (zz_m 2 rfl) rfl dX7_fine_42 ?_
      refine lv_bipush (v := 115) hx hb dX7_fine_45 (by decide) ?_
      refine lv_aload_n hx hb dX7_fine_47 rfl (lv_at hl33 1 rfl) ?_
      refine lv_iload_n hx hb dX7_fine_48 rfl (lv_at hl33 2 rfl) ?_
      obtain ⟨r50, σ51, hc52, hf53⟩ := zBd hf46
      clear hf46
      refine zy_ci (r0 := r50) (WS1 := zg_W ML ad cA σ51) (TYS1 := zg_T ML cA) Z49 (va_runV (As := [.int a1]) (rest := [.int 115, .ref (ad 14)]) X (c_X7_isShaded l D V ad cA a1 σ44 r50 σ51 hc52 H47.size) (cwV 1 hts gX7_fine_X7_isShaded rfl rfl rfl ⟨rfl, zh_X7_isShaded⟩ ⟨Nat.le_of_ble_eq_true rfl, Nat.le_of_ble_eq_true rfl⟩) (zy_pV (ci := 7) Z49 mL_ok mk_0 rfl rfl) rfl rfl hl33.1 rfl (lv_room (Nat.le_of_ble_eq_true rfl)) dX7_fine_49 ⟨Nat.le_of_ble_eq_true rfl, Nat.le_of_ble_eq_true rfl⟩) (fun H54 lo55 Z56 => ?_)
      clear Z49 hc52
      refine lv_if_eq (tgt := 59) hx hb dX7_fine_52 (by decide) (fun b57 => ?_) (fun b57 => ?_)
      · have hf58 := zYes hf53 b57
        clear hf53
        refine lv_iconst (v := 0) hx hb dX7_fine_59 (by decide) ?_
        exact b60_ r26 0 115 σ51 hf58 _ _ _ Z56 (lv_sub hl33 [1, 0] rfl)
      · have hf59 := zNot hf53 b57
        clear hf53
        refine lv_iconst (v := 1) hx hb dX7_fine_55 (by decide) ?_
        refine lv_goto (tgt := 60) hx hb dX7_fine_56 (by decide) ?_
        exact b60_ r26 1 115 σ51 hf59 _ _ _ Z56 (lv_sub hl33 [1, 0] rfl)
    · have hf60 := zNot hf29 b35
      clear hf29
      refine lv_aload_n hx hb dX7_fine_21 rfl (lv_at hl33 1 rfl) ?_
      refine lv_iload_n hx hb dX7_fine_22 rfl (lv_at hl33 2 rfl) ?_
      refine lv_iconst (v := 2) hx hb dX7_fine_23 (by decide) ?_
      obtain ⟨r61, σ62, hc63, hf64⟩ := zBd hf60
      clear hf60
      refine zy_ci (r0 := r61) (WS1 := zg_W ML ad cA σ62) (TYS1 := zg_T ML cA) Z32 (va_runV (As := [.int a1, .int 2]) (rest := []) X (c_X7_of l D V ad cA a1 2 σ27 r61 σ62 hc63 H30.size) (cwV 2 hts gX7_fine_X7_of rfl rfl rfl ⟨rfl, zh_X7_of⟩ ⟨Nat.le_of_ble_eq_true rfl, Nat.le_of_ble_eq_true rfl⟩) (zy_pV (ci := 7) Z32 mL_ok mk_0 rfl rfl) rfl rfl hl33.1 rfl (lv_room (Nat.le_of_ble_eq_true rfl)) dX7_fine_24 ⟨Nat.le_of_ble_eq_true rfl, Nat.le_of_ble_eq_true rfl⟩) (fun H65 lo66 Z67 => ?_)
      clear Z32 hc63
      exact zy_iret X hr hlk Z67 (zEnd hf64) dX7_fine_27
  · have hf68 := zYes hf20 b24
    clear hf20
    refine lv_ldc (v := (-1000000001)) hx hb hown (hts _ (zz_m 1 rfl)) dX7_fine_8 ?_
    exact zy_iret X hr hlk Z23 (zEnd hf68) dX7_fine_10
def f_X7_goods (a1 : Int32) (a2 : Int32) (σ : zg_S) : Option (Int32 × zg_S) := zbd (f_X7_isStall a1 σ) (fun (r1 : Int32) (σ2 : zg_S) => (if r1 = 0 then some ((-1000000001), σ2) else zbd (f_X7_isIn (Int32.toInt64 a2) (Int32.toInt64 0) (Int32.toInt64 100) σ2) (fun (r11 : Int32) (σ12 : zg_S) => (if r11 = 0 then some ((-1000000001), σ12) else zbd (f_X7_laysBy σ12) (fun (r20 : Int32) (σ21 : zg_S) => zbd (f_X7_goesOnMany a2 σ21) (fun (r27 : Int32) (σ28 : zg_S) => zbd (f_X7_of a1 2 σ28) (fun (r34 : Int32) (σ35 : zg_S) => zbd (f_X7_laysBack σ35) (fun (r43 : Int32) (σ44 : zg_S) => some (r34, σ44)))))))))
set_option maxHeartbeats 4000000 in
set_option maxRecDepth 100000 in
theorem c_X7_goods (l : Launch) (D : va_G) (V : zz_V) (ad : Nat → Nat) (cA : Nat → ClassId) (a1 : Int32) (a2 : Int32)  (σ : zg_S) (r0 : Int32) (σf : zg_S) (hf : f_X7_goods a1 a2 σ = some (r0, σf)) : zM_I l yX7_goods wsX7_goods 7 156 D V ML ad cA [.ref (ad 0), .int a1, .int a2] σ r0 σf := by
  intro sz
  refine Met.ofW (cc := cX7_goods) (maxL := 4) (ret := (some .int)) (by decide) rfl ?_
  intro p e s m args below meth c s₁ B hml hv
  obtain ⟨rfl, hC⟩ := hv
  have hx := B.exec
  have hb := B.bytes
  have hr := B.returns
  have hts := atoms_spec (ws := wsX7_goods) B.pre
  have hown : s.vm.findClass RX7 = some m.cls := findClass_of_methodNamed B.named
  have hlk := B.notSynchronized
  have X : CallFix p m c cX7_goods 4 s _ wsX7_goods RX7 := ⟨hx, hb, hml, hown, hts⟩
  have Z := zz_enter hC
  generalize va_A (zg_W ML ad cA σ) sz = A at Z ⊢
  have hl := lv_entry ([.ref (ad 0), .int a1, .int a2]) (n := 4) (Nat.le_of_ble_eq_true rfl)
  rw [lg_entry_eq]
  generalize (lg_sl ([.ref (ad 0), .int a1, .int a2]) ++ List.replicate (4 - (lg_sl ([.ref (ad 0), .int a1, .int a2])).length) Slot.unset).toArray = ls at hl ⊢
  have hl : lv_has ls 4 [(0, .ref (ad 0)), (1, .int a1), (2, .int a2)] := hl
  unfold f_X7_goods at hf
  refine lv_aload_n hx hb dX7_goods_0 rfl (lv_at hl 0 rfl) ?_
  refine lv_iload_n hx hb dX7_goods_1 rfl (lv_at hl 1 rfl) ?_
  obtain ⟨r1, σ2, hc3, hf4⟩ := zBd hf
  clear hf
  refine zy_ci (r0 := r1) (WS1 := zg_W ML ad cA σ2) (TYS1 := zg_T ML cA) Z (va_runV (As := [.int a1]) (rest := []) X (c_X7_isStall l D V ad cA a1 σ r1 σ2 hc3 s.heap.size) (cwV 1 hts gX7_goods_X7_isStall rfl rfl rfl ⟨rfl, zh_X7_isStall⟩ ⟨Nat.le_of_ble_eq_true rfl, Nat.le_of_ble_eq_true rfl⟩) (zy_pV (ci := 7) Z mL_ok mk_0 rfl rfl) rfl rfl hl.1 rfl (lv_room (Nat.le_of_ble_eq_true rfl)) dX7_goods_2 ⟨Nat.le_of_ble_eq_true rfl, Nat.le_of_ble_eq_true rfl⟩) (fun H5 lo6 Z7 => ?_)
  clear Z hc3
  refine lv_if_eq (tgt := 20) hx hb dX7_goods_5 (by decide) (fun b8 => ?_) (fun b8 => ?_)
  · have hf9 := zYes hf4 b8
    clear hf4
    refine lv_ldc (v := (-1000000001)) hx hb hown (hts _ (zz_m 2 rfl)) dX7_goods_20 ?_
    exact zy_iret X hr hlk Z7 (zEnd hf9) dX7_goods_22
  · have hf10 := zNot hf4 b8
    clear hf4
    refine lv_iload_n hx hb dX7_goods_8 rfl (lv_at hl 2 rfl) ?_
    refine lv_i2l (v := Int32.toInt64 a2) hx hb dX7_goods_9 rfl ?_
    refine lv_lconst (v := 0) hx hb dX7_goods_10 (by decide) ?_
    refine zz_vl (v := Int32.toInt64 0) (by decide) ?_
    refine lv_ldc2 (v := 100) hx hb hown (hts _ (zz_m 1 rfl)) dX7_goods_11 ?_
    refine zz_vl (v := Int32.toInt64 100) (by decide) ?_
    obtain ⟨r11, σ12, hc13, hf14⟩ := zBd hf10
    clear hf10
    refine zy_ci (r0 := r11) (WS1 := zg_W ML ad cA σ12) (TYS1 := zg_T ML cA) Z7 (va_runS (As := [.long (Int32.toInt64 a2), .long (Int32.toInt64 0), .long (Int32.toInt64 100)]) (rest := []) X (c_X7_isIn l D V ad cA (Int32.toInt64 a2) (Int32.toInt64 0) (Int32.toInt64 100) σ2 r11 σ12 hc13 H5.size) (va_cwS 3 hts gX7_goods_X7_isIn rfl rfl rfl zh_X7_isIn ⟨Nat.le_of_ble_eq_true rfl, Nat.le_of_ble_eq_true rfl⟩) (zz_pS Z7) rfl rfl hl.1 rfl (lv_room (Nat.le_of_ble_eq_true rfl)) dX7_goods_14 ⟨Nat.le_of_ble_eq_true rfl, Nat.le_of_ble_eq_true rfl⟩) (fun H15 lo16 Z17 => ?_)
    clear Z7 hc13
    refine lv_if_ne (tgt := 23) hx hb dX7_goods_17 (by decide) (fun b18 => ?_) (fun b18 => ?_)
    · have hf19 := zNot hf14 b18
      clear hf14
      refine lv_aload_n hx hb dX7_goods_23 rfl (lv_at hl 0 rfl) ?_
      obtain ⟨r20, σ21, hc22, hf23⟩ := zBd hf19
      clear hf19
      refine zy_cv (WS1 := zg_W ML ad cA σ21) (TYS1 := zg_T ML cA) Z17 (va_runV (As := []) (rest := []) X (c_X7_laysBy l D V ad cA  σ12 r20 σ21 hc22 H15.size) (cwV 0 hts gX7_goods_X7_laysBy rfl rfl rfl ⟨rfl, zh_X7_laysBy⟩ ⟨Nat.le_of_ble_eq_true rfl, Nat.le_of_ble_eq_true rfl⟩) (zy_pV (ci := 7) Z17 mL_ok mk_0 rfl rfl) rfl rfl hl.1 rfl (lv_room (Nat.le_of_ble_eq_true rfl)) dX7_goods_24 ⟨Nat.le_of_ble_eq_true rfl, Nat.le_of_ble_eq_true rfl⟩) (fun H24 lo25 Z26 => ?_)
      clear Z17 hc22
      refine lv_aload_n hx hb dX7_goods_27 rfl (lv_at hl 0 rfl) ?_
      refine lv_iload_n hx hb dX7_goods_28 rfl (lv_at hl 2 rfl) ?_
      obtain ⟨r27, σ28, hc29, hf30⟩ := zBd hf23
      clear hf23
      refine zy_cv (WS1 := zg_W ML ad cA σ28) (TYS1 := zg_T ML cA) Z26 (va_runV (As := [.int a2]) (rest := []) X (c_X7_goesOnMany l D V ad cA a2 σ21 r27 σ28 hc29 H24.size) (cwV 1 hts gX7_goods_X7_goesOnMany rfl rfl rfl ⟨rfl, zh_X7_goesOnMany⟩ ⟨Nat.le_of_ble_eq_true rfl, Nat.le_of_ble_eq_true rfl⟩) (zy_pV (ci := 7) Z26 mL_ok mk_0 rfl rfl) rfl rfl hl.1 rfl (lv_room (Nat.le_of_ble_eq_true rfl)) dX7_goods_29 ⟨Nat.le_of_ble_eq_true rfl, Nat.le_of_ble_eq_true rfl⟩) (fun H31 lo32 Z33 => ?_)
      clear Z26 hc29
      refine lv_aload_n hx hb dX7_goods_32 rfl (lv_at hl 0 rfl) ?_
      refine lv_iload_n hx hb dX7_goods_33 rfl (lv_at hl 1 rfl) ?_
      refine lv_iconst (v := 2) hx hb dX7_goods_34 (by decide) ?_
      obtain ⟨r34, σ35, hc36, hf37⟩ := zBd hf30
      clear hf30
      refine zy_ci (r0 := r34) (WS1 := zg_W ML ad cA σ35) (TYS1 := zg_T ML cA) Z33 (va_runV (As := [.int a1, .int 2]) (rest := []) X (c_X7_of l D V ad cA a1 2 σ28 r34 σ35 hc36 H31.size) (cwV 2 hts gX7_goods_X7_of rfl rfl rfl ⟨rfl, zh_X7_of⟩ ⟨Nat.le_of_ble_eq_true rfl, Nat.le_of_ble_eq_true rfl⟩) (zy_pV (ci := 7) Z33 mL_ok mk_0 rfl rfl) rfl rfl hl.1 rfl (lv_room (Nat.le_of_ble_eq_true rfl)) dX7_goods_35 ⟨Nat.le_of_ble_eq_true rfl, Nat.le_of_ble_eq_true rfl⟩) (fun H38 lo39 Z40 => ?_)
      clear Z33 hc36
      refine lv_istore_n (lv' := [(3, .int r34), (0, .ref (ad 0)), (1, .int a1), (2, .int a2)]) hx hb dX7_goods_38 rfl hl (by decide) rfl (fun ls42 hl41 => ?_)
      clear hl
      refine lv_aload_n hx hb dX7_goods_39 rfl (lv_at hl41 1 rfl) ?_
      obtain ⟨r43, σ44, hc45, hf46⟩ := zBd hf37
      clear hf37
      refine zy_cv (WS1 := zg_W ML ad cA σ44) (TYS1 := zg_T ML cA) Z40 (va_runV (As := []) (rest := []) X (c_X7_laysBack l D V ad cA  σ35 r43 σ44 hc45 H38.size) (cwV 0 hts gX7_goods_X7_laysBack rfl rfl rfl ⟨rfl, zh_X7_laysBack⟩ ⟨Nat.le_of_ble_eq_true rfl, Nat.le_of_ble_eq_true rfl⟩) (zy_pV (ci := 7) Z40 mL_ok mk_0 rfl rfl) rfl rfl hl41.1 rfl (lv_room (Nat.le_of_ble_eq_true rfl)) dX7_goods_40 ⟨Nat.le_of_ble_eq_true rfl, Nat.le_of_ble_eq_true rfl⟩) (fun H47 lo48 Z49 => ?_)
      clear Z40 hc45
      refine lv_iload_n hx hb dX7_goods_43 rfl (lv_at hl41 0 rfl) ?_
      exact zy_iret X hr hlk Z49 (zEnd hf46) dX7_goods_44
    · have hf50 := zYes hf14 b18
      clear hf14
      refine lv_ldc (v := (-1000000001)) hx hb hown (hts _ (zz_m 2 rfl)) dX7_goods_20 ?_
      exact zy_iret X hr hlk Z17 (zEnd hf50) dX7_goods_22
def B_X7_hours_51 (a1 : Int32) (x2 : Int32) (σ : zg_S) : Option (Int32 × zg_S) := some ((σ 1 4) - x2, σ)
def B_X7_hours_24 (a1 : Int32) (rec24_ : Int32 → Int32 → zg_S → Option (Int32 × zg_S)) (x2 : Int32) (x3 : Int32) (σ : zg_S) : Option (Int32 × zg_S) := (if a1 ≤ x3 then B_X7_hours_51 a1 x2 σ else (if 9999 ≤ (σ 1 2) then B_X7_hours_51 a1 x2 σ else zbd (f_X7_goesOn σ) (fun (r7 : Int32) (σ8 : zg_S) => rec24_ x2 (x3 + 1) σ8)))
def L_X7_hours_24 (a1 : Int32) : Nat → Int32 → Int32 → zg_S → Option (Int32 × zg_S) := zfix (fun _ _ _ => none) (B_X7_hours_24 a1)
def f_X7_hours (a1 : Int32) (σ : zg_S) : Option (Int32 × zg_S) := zbd (f_X7_isIn (Int32.toInt64 a1) (Int32.toInt64 1) (Int32.toInt64 100) σ) (fun (r16 : Int32) (σ17 : zg_S) => (if r16 = 0 then some ((-1000000001), σ17) else L_X7_hours_24 a1 zfu (σ17 1 4) 0 σ17))
set_option maxHeartbeats 4000000 in
set_option maxRecDepth 100000 in
theorem c_X7_hours (l : Launch) (D : va_G) (V : zz_V) (ad : Nat → Nat) (cA : Nat → ClassId) (a1 : Int32)  (σ : zg_S) (r0 : Int32) (σf : zg_S) (hf : f_X7_hours a1 σ = some (r0, σf)) : zM_I l yX7_hours wsX7_hours 6 134 D V ML ad cA [.ref (ad 0), .int a1] σ r0 σf := by
  intro sz
  refine Met.ofW (cc := cX7_hours) (maxL := 4) (ret := (some .int)) (by decide) rfl ?_
  intro p e s m args below meth c s₁ B hml hv
  obtain ⟨rfl, hC⟩ := hv
  have hx := B.exec
  have hb := B.bytes
  have hr := B.returns
  have hts := atoms_spec (ws := wsX7_hours) B.pre
  have hown : s.vm.findClass RX7 = some m.cls := findClass_of_methodNamed B.named
  have hlk := B.notSynchronized
  have X : CallFix p m c cX7_hours 4 s _ wsX7_hours RX7 := ⟨hx, hb, hml, hown, hts⟩
  have Z := zz_enter hC
  generalize va_A (zg_W ML ad cA σ) sz = A at Z ⊢
  have hl := lv_entry ([.ref (ad 0), .int a1]) (n := 4) (Nat.le_of_ble_eq_true rfl)
  rw [lg_entry_eq]
  generalize (lg_sl ([.ref (ad 0), .int a1]) ++ List.replicate (4 - (lg_sl ([.ref (ad 0), .int a1])).length) Slot.unset).toArray = ls at hl ⊢
  have hl : lv_has ls 4 [(0, .ref (ad 0)), (1, .int a1)] := hl
  unfold f_X7_hours at hf
  have b24_ : ∀ (k24_ : Nat) (x2 : Int32) (x3 : Int32) (σ : zg_S), L_X7_hours_24 a1 k24_ x2 x3 σ = some (r0, σf) → ∀ (H : Heap) (locs : List Loc) (ls : Array Slot), zz_S D V A s (zg_W ML ad cA σ) (zg_T ML cA) H locs → lv_has ls 4 [(0, .ref (ad 0)), (1, .int a1), (2, .int x2), (3, .int x3)] → W p l e (headSpec wsX7_hours { frames := 6, cells := 0, slots := 0, locals := 134 }).room s m (List.toArray [.ref (ad 0), .int a1]) below meth c H locs 0 0 (MQ below (va_Qi (fun r (_ : Unit) => r = r0) (fun _ t => zz_B D A (zg_W ML ad cA σf) (zg_T ML cA) t) A) (List.toArray [.ref (ad 0), .int a1]) s 0 0 A) (F0 m 24 ls []) := by
    intro k24_
    induction k24_ with
    | zero =>
        intro x2 x3 σ hf24_ H24_ locs24_ ls24_ Z24_ hl24_
        exact zNone hf24_
    | succ k24_ ih24_ =>
        intro x2 x3 σ hf24_ H24_ locs24_ ls24_ Z24_ hl24_
        replace hf24_ : B_X7_hours_24 a1 (L_X7_hours_24 a1 k24_) x2 x3 σ = some (r0, σf) := hf24_
        unfold B_X7_hours_24 at hf24_
        have b51_ : ∀ (x2 : Int32) (σ : zg_S), B_X7_hours_51 a1 x2 σ = some (r0, σf) → ∀ (H : Heap) (locs : List Loc) (ls : Array Slot), zz_S D V A s (zg_W ML ad cA σ) (zg_T ML cA) H locs → lv_has ls 4 [(0, .ref (ad 0)), (2, .int x2)] → W p l e (headSpec wsX7_hours { frames := 6, cells := 0, slots := 0, locals := 134 }).room s m (List.toArray [.ref (ad 0), .int a1]) below meth c H locs 0 0 (MQ below (va_Qi (fun r (_ : Unit) => r = r0) (fun _ t => zz_B D A (zg_W ML ad cA σf) (zg_T ML cA) t) A) (List.toArray [.ref (ad 0), .int a1]) s 0 0 A) (F0 m 51 ls []) := by
          intro x2 σ hf51_ H51_ locs51_ ls51_ Z51_ hl51_
          unfold B_X7_hours_51 at hf51_
          refine lv_aload_n hx hb dX7_hours_51 rfl (lv_at hl51_ 0 rfl) ?_
          refine zy_get (v := .ref (ad 1)) X Z51_ mL_ok mk_0 rfl rfl (fun w h => List.mem_cons_of_mem _ (List.mem_append_right _ h)) 0 rfl (zz_m 3 rfl) rfl dX7_hours_52 ?_
          refine lv_iconst (v := 4) hx hb dX7_hours_55 (by decide) ?_
          refine zy_ild X Z51_ mL_ok mk_1 ml_1 (zz_in 4 3047 rfl) dX7_hours_56 ?_
          refine zz_v (v := σ 1 4) rfl ?_
          refine lv_iload_n hx hb dX7_hours_57 rfl (lv_at hl51_ 1 rfl) ?_
          refine lv_isub hx hb dX7_hours_58 ?_
          exact zy_iret X hr hlk Z51_ (zEnd hf51_) dX7_hours_59
        refine lv_iload_n hx hb dX7_hours_24 rfl (lv_at hl24_ 3 rfl) ?_
        refine lv_iload_n hx hb dX7_hours_25 rfl (lv_at hl24_ 1 rfl) ?_
        refine lv_icmp_ge (tgt := 51) hx hb dX7_hours_26 (by decide) (fun b1 => ?_) (fun b1 => ?_)
        · have hf2 := zYes hf24_ b1
          clear hf24_
          exact b51_ x2 σ hf2 _ _ _ Z24_ (lv_sub hl24_ [0, 2] rfl)
        · have hf3 := zNot hf24_ b1
          clear hf24_
          refine lv_aload_n hx hb dX7_hours_29 rfl (lv_at hl24_ 0 rfl) ?_
          refine zy_get (v := .ref (ad 1)) X Z24_ mL_ok mk_0 rfl rfl (fun w h => List.mem_cons_of_mem _ (List.mem_append_right _ h)) 0 rfl (zz_m 3 rfl) rfl dX7_hours_30 ?_
          refine lv_iconst (v := 2) hx hb dX7_hours_33 (by decide) ?_
          refine zy_ild X Z24_ mL_ok mk_1 ml_1 (zz_in 2 3047 rfl) dX7_hours_34 ?_
          refine zz_v (v := σ 1 2) rfl ?_
          refine lv_sipush (v := 9999) hx hb dX7_hours_35 (by decide) ?_
          refine lv_icmp_ge (tgt := 51) hx hb dX7_hours_38 (by decide) (fun b4 => ?_) (fun b4 => ?_)
          · have hf5 := zYes hf3 b4
            clear hf3
            exact b51_ x2 σ hf5 _ _ _ Z24_ (lv_sub hl24_ [0, 2] rfl)
          · have hf6 := zNot hf3 b4
            clear hf3
            refine lv_aload_n hx hb dX7_hours_41 rfl (lv_at hl24_ 0 rfl) ?_
            obtain ⟨r7, σ8, hc9, hf10⟩ := zBd hf6
            clear hf6
            refine zy_cv (WS1 := zg_W ML ad cA σ8) (TYS1 := zg_T ML cA) Z24_ (va_runV (As := []) (rest := []) X (c_X7_goesOn l D V ad cA  σ r7 σ8 hc9 H24_.size) (cwV 0 hts gX7_hours_X7_goesOn rfl rfl rfl ⟨rfl, zh_X7_goesOn⟩ ⟨Nat.le_of_ble_eq_true rfl, Nat.le_of_ble_eq_true rfl⟩) (zy_pV (ci := 7) Z24_ mL_ok mk_0 rfl rfl) rfl rfl hl24_.1 rfl (lv_room (Nat.le_of_ble_eq_true rfl)) dX7_hours_42 ⟨Nat.le_of_ble_eq_true rfl, Nat.le_of_ble_eq_true rfl⟩) (fun H11 lo12 Z13 => ?_)
            clear Z24_ hc9
            refine lv_iinc (v := (x3 + 1)) (lv' := [(3, .int (x3 + 1)), (0, .ref (ad 0)), (1, .int a1), (2, .int x2)]) hx hb dX7_hours_45 hl24_ (k := 3) rfl rfl (by decide) rfl (fun ls15 hl14 => ?_)
            clear hl24_
            refine lv_goto (tgt := 24) hx hb dX7_hours_48 (by decide) ?_
            exact ih24_ x2 (x3 + 1) σ8 hf10 _ _ _ Z13 (lv_sub hl14 [1, 2, 3, 0] rfl)
  refine lv_iload_n hx hb dX7_hours_0 rfl (lv_at hl 1 rfl) ?_
  refine lv_i2l (v := Int32.toInt64 a1) hx hb dX7_hours_1 rfl ?_
  refine lv_lconst (v := 1) hx hb dX7_hours_2 (by decide) ?_
  refine zz_vl (v := Int32.toInt64 1) (by decide) ?_
  refine lv_ldc2 (v := 100) hx hb hown (hts _ (zz_m 1 rfl)) dX7_hours_3 ?_
  refine zz_vl (v := Int32.toInt64 100) (by decide) ?_
  obtain ⟨r16, σ17, hc18, hf19⟩ := zBd hf
  clear hf
  refine zy_ci (r0 := r16) (WS1 := zg_W ML ad cA σ17) (TYS1 := zg_T ML cA) Z (va_runS (As := [.long (Int32.toInt64 a1), .long (Int32.toInt64 1), .long (Int32.toInt64 100)]) (rest := []) X (c_X7_isIn l D V ad cA (Int32.toInt64 a1) (Int32.toInt64 1) (Int32.toInt64 100) σ r16 σ17 hc18 s.heap.size) (va_cwS 3 hts gX7_hours_X7_isIn rfl rfl rfl zh_X7_isIn ⟨Nat.le_of_ble_eq_true rfl, Nat.le_of_ble_eq_true rfl⟩) (zz_pS Z) rfl rfl hl.1 rfl (lv_room (Nat.le_of_ble_eq_true rfl)) dX7_hours_6 ⟨Nat.le_of_ble_eq_true rfl, Nat.le_of_ble_eq_true rfl⟩) (fun H20 lo21 Z22 => ?_)
  clear Z hc18
  refine lv_if_ne (tgt := 15) hx hb dX7_hours_9 (by decide) (fun b23 => ?_) (fun b23 => ?_)
  · have hf24 := zNot hf19 b23
    clear hf19
    refine lv_aload_n hx hb dX7_hours_15 rfl (lv_at hl 0 rfl) ?_
    refine zy_get (v := .ref (ad 1)) X Z22 mL_ok mk_0 rfl rfl (fun w h => List.mem_cons_of_mem _ (List.mem_append_right _ h)) 0 rfl (zz_m 3 rfl) rfl dX7_hours_16 ?_
    refine lv_iconst (v := 4) hx hb dX7_hours_19 (by decide) ?_
    refine zy_ild X Z22 mL_ok mk_1 ml_1 (zz_in 4 3047 rfl) dX7_hours_20 ?_
    refine zz_v (v := σ17 1 4) rfl ?_
    refine lv_istore_n (lv' := [(2, .int (σ17 1 4)), (0, .ref (ad 0)), (1, .int a1)]) hx hb dX7_hours_21 rfl hl (by decide) rfl (fun ls26 hl25 => ?_)
    clear hl
    refine lv_iconst (v := 0) hx hb dX7_hours_22 (by decide) ?_
    refine lv_istore_n (lv' := [(3, .int 0), (2, .int (σ17 1 4)), (0, .ref (ad 0)), (1, .int a1)]) hx hb dX7_hours_23 rfl hl25 (by decide) rfl (fun ls28 hl27 => ?_)
    clear hl25
    exact b24_ zfu (σ17 1 4) 0 σ17 hf24 _ _ _ Z22 (lv_sub hl27 [2, 3, 1, 0] rfl)
  · have hf29 := zYes hf19 b23
    clear hf19
    refine lv_ldc (v := (-1000000001)) hx hb hown (hts _ (zz_m 2 rfl)) dX7_hours_12 ?_
    exact zy_iret X hr hlk Z22 (zEnd hf29) dX7_hours_14
def f_X7_isText (a1 : Int32) (σ : zg_S) : Option (Int32 × zg_S) := zbd (f_X7_isIn (Int32.toInt64 a1) (Int32.toInt64 0) (Int32.toInt64 ((σ 1 1) - 1)) σ) (fun (r1 : Int32) (σ2 : zg_S) => (if r1 = 0 ∨ r1 = 1 then some (r1, σ2) else none))
set_option maxHeartbeats 4000000 in
set_option maxRecDepth 100000 in
theorem c_X7_isText (l : Launch) (D : va_G) (V : zz_V) (ad : Nat → Nat) (cA : Nat → ClassId) (a1 : Int32)  (σ : zg_S) (r0 : Int32) (σf : zg_S) (hf : f_X7_isText a1 σ = some (r0, σf)) : zM_I l yX7_isText wsX7_isText 1 25 D V ML ad cA [.ref (ad 0), .int a1] σ r0 σf := by
  intro sz
  refine Met.ofW (cc := cX7_isText) (maxL := 2) (ret := (some .boolean)) (by decide) rfl ?_
  intro p e s m args below meth c s₁ B hml hv
  obtain ⟨rfl, hC⟩ := hv
  have hx := B.exec
  have hb := B.bytes
  have hr := B.returns
  have hts := atoms_spec (ws := wsX7_isText) B.pre
  have hown : s.vm.findClass RX7 = some m.cls := findClass_of_methodNamed B.named
  have hlk := B.notSynchronized
  have X : CallFix p m c cX7_isText 2 s _ wsX7_isText RX7 := ⟨hx, hb, hml, hown, hts⟩
  have Z := zz_enter hC
  generalize va_A (zg_W ML ad cA σ) sz = A at Z ⊢
  have hl := lv_entry ([.ref (ad 0), .int a1]) (n := 2) (Nat.le_of_ble_eq_true rfl)
  rw [lg_entry_eq]
  generalize (lg_sl ([.ref (ad 0), .int a1]) ++ List.replicate (2 - (lg_sl ([.ref (ad 0), .int a1])).length) Slot.unset).toArray = ls at hl ⊢
  have hl : lv_has ls 2 [(0, .ref (ad 0)), (1, .int a1)] := hl
  unfold f_X7_isText at hf
  refine lv_iload_n hx hb dX7_isText_0 rfl (lv_at hl 1 rfl) ?_
  refine lv_i2l (v := Int32.toInt64 a1) hx hb dX7_isText_1 rfl ?_
  refine lv_lconst (v := 0) hx hb dX7_isText_2 (by decide) ?_
  refine zz_vl (v := Int32.toInt64 0) (by decide) ?_
  refine lv_aload_n hx hb dX7_isText_3 rfl (lv_at hl 0 rfl) ?_
  refine zy_get (v := .ref (ad 1)) X Z mL_ok mk_0 rfl rfl (fun w h => List.mem_cons_of_mem _ (List.mem_append_right _ h)) 0 rfl (zz_m 1 rfl) rfl dX7_isText_4 ?_
  refine lv_iconst (v := 1) hx hb dX7_isText_7 (by decide) ?_
  refine zy_ild X Z mL_ok mk_1 ml_1 (zz_in 1 3047 rfl) dX7_isText_8 ?_
  refine zz_v (v := σ 1 1) rfl ?_
  refine lv_iconst (v := 1) hx hb dX7_isText_9 (by decide) ?_
  refine lv_isub hx hb dX7_isText_10 ?_
  refine lv_i2l (v := Int32.toInt64 ((σ 1 1) - 1)) hx hb dX7_isText_11 rfl ?_
  obtain ⟨r1, σ2, hc3, hf4⟩ := zBd hf
  clear hf
  refine zy_ci (r0 := r1) (WS1 := zg_W ML ad cA σ2) (TYS1 := zg_T ML cA) Z (va_runS (As := [.long (Int32.toInt64 a1), .long (Int32.toInt64 0), .long (Int32.toInt64 ((σ 1 1) - 1))]) (rest := []) X (c_X7_isIn l D V ad cA (Int32.toInt64 a1) (Int32.toInt64 0) (Int32.toInt64 ((σ 1 1) - 1)) σ r1 σ2 hc3 s.heap.size) (va_cwS 3 hts gX7_isText_X7_isIn rfl rfl rfl zh_X7_isIn ⟨Nat.le_of_ble_eq_true rfl, Nat.le_of_ble_eq_true rfl⟩) (zz_pS Z) rfl rfl hl.1 rfl (lv_room (Nat.le_of_ble_eq_true rfl)) dX7_isText_12 ⟨Nat.le_of_ble_eq_true rfl, Nat.le_of_ble_eq_true rfl⟩) (fun H5 lo6 Z7 => ?_)
  clear Z hc3
  obtain ⟨z9, hf8⟩ := zC hf4
  exact zy_zret X hr hlk Z7 z9 (zEnd hf8) dX7_isText_15
def B_X7_isWordAt_10 (a1 : Int32) (a2 : Int32) (a3 : Int32) (a4 : Int32) (y0 : Int32) (σ : zg_S) : Option (Int32 × zg_S) := (if (σ 0 17) = 1 then (if ((σ 0 16) - (σ 0 15)) = y0 then (if zin (σ 0 15) 96 = true then (if (σ 13 (Int32.toNatClampNeg (σ 0 15))) = a1 then (if zin ((σ 0 15) + 1) 96 = true then (if (σ 13 (Int32.toNatClampNeg ((σ 0 15) + 1))) = a2 then (if zin ((σ 0 15) + 2) 96 = true then (if (σ 13 (Int32.toNatClampNeg ((σ 0 15) + 2))) = a3 then (if a4 = 0 then some (1, σ) else (if zin ((σ 0 15) + 3) 96 = true then (if (σ 13 (Int32.toNatClampNeg ((σ 0 15) + 3))) = a4 then some (1, σ) else some (0, σ)) else none)) else some (0, σ)) else none) else some (0, σ)) else none) else some (0, σ)) else none) else some (0, σ)) else some (0, σ))
def f_X7_isWordAt (a1 : Int32) (a2 : Int32) (a3 : Int32) (a4 : Int32) (σ : zg_S) : Option (Int32 × zg_S) := (if a4 = 0 then B_X7_isWordAt_10 a1 a2 a3 a4 3 σ else B_X7_isWordAt_10 a1 a2 a3 a4 4 σ)
set_option maxHeartbeats 4000000 in
set_option maxRecDepth 100000 in
theorem c_X7_isWordAt (l : Launch) (D : va_G) (V : zz_V) (ad : Nat → Nat) (cA : Nat → ClassId) (a1 : Int32) (a2 : Int32) (a3 : Int32) (a4 : Int32)  (σ : zg_S) (r0 : Int32) (σf : zg_S) (hf : f_X7_isWordAt a1 a2 a3 a4 σ = some (r0, σf)) : zM_I l yX7_isWordAt wsX7_isWordAt 0 0 D V ML ad cA [.ref (ad 0), .int a1, .int a2, .int a3, .int a4] σ r0 σf := by
  intro sz
  refine Met.ofW (cc := cX7_isWordAt) (maxL := 6) (ret := (some .boolean)) (by decide) rfl ?_
  intro p e s m args below meth c s₁ B hml hv
  obtain ⟨rfl, hC⟩ := hv
  have hx := B.exec
  have hb := B.bytes
  have hr := B.returns
  have hts := atoms_spec (ws := wsX7_isWordAt) B.pre
  have hown : s.vm.findClass RX7 = some m.cls := findClass_of_methodNamed B.named
  have hlk := B.notSynchronized
  have X : CallFix p m c cX7_isWordAt 6 s _ wsX7_isWordAt RX7 := ⟨hx, hb, hml, hown, hts⟩
  have Z := zz_enter hC
  generalize va_A (zg_W ML ad cA σ) sz = A at Z ⊢
  have hl := lv_entry ([.ref (ad 0), .int a1, .int a2, .int a3, .int a4]) (n := 6) (Nat.le_of_ble_eq_true rfl)
  rw [lg_entry_eq]
  generalize (lg_sl ([.ref (ad 0), .int a1, .int a2, .int a3, .int a4]) ++ List.replicate (6 - (lg_sl ([.ref (ad 0), .int a1, .int a2, .int a3, .int a4])).length) Slot.unset).toArray = ls at hl ⊢
  have hl : lv_has ls 6 [(0, .ref (ad 0)), (1, .int a1), (2, .int a2), (3, .int a3), (4, .int a4)] := hl
  unfold f_X7_isWordAt at hf
  have b10_ : ∀ (y0 : Int32) (σ : zg_S), B_X7_isWordAt_10 a1 a2 a3 a4 y0 σ = some (r0, σf) → ∀ (H : Heap) (locs : List Loc) (ls : Array Slot), zz_S D V A s (zg_W ML ad cA σ) (zg_T ML cA) H locs → lv_has ls 6 [(0, .ref (ad 0)), (1, .int a1), (2, .int a2), (3, .int a3), (4, .int a4)] → W p l e (headSpec wsX7_isWordAt { frames := 0, cells := 0, slots := 0, locals := 0 }).room s m (List.toArray [.ref (ad 0), .int a1, .int a2, .int a3, .int a4]) below meth c H locs 0 0 (MQ below (va_Qi (fun r (_ : Unit) => r = r0) (fun _ t => zz_B D A (zg_W ML ad cA σf) (zg_T ML cA) t) A) (List.toArray [.ref (ad 0), .int a1, .int a2, .int a3, .int a4]) s 0 0 A) (F0 m 10 ls [.int y0]) := by
    intro y0 σ hf10_ H10_ locs10_ ls10_ Z10_ hl10_
    unfold B_X7_isWordAt_10 at hf10_
    refine lv_istore (lv' := [(5, .int y0), (0, .ref (ad 0)), (1, .int a1), (2, .int a2), (3, .int a3), (4, .int a4)]) hx hb dX7_isWordAt_10 hl10_ (by decide) rfl (fun ls2 hl1 => ?_)
    clear hl10_
    refine lv_aload_n hx hb dX7_isWordAt_12 rfl (lv_at hl1 1 rfl) ?_
    refine zy_get (v := .int (σ 0 17)) X Z10_ mL_ok mk_0 rfl rfl (fun w h => List.mem_cons_of_mem _ (List.mem_append_right _ h)) 17 rfl (zz_m 1 rfl) rfl dX7_isWordAt_13 ?_
    refine lv_iconst (v := 1) hx hb dX7_isWordAt_16 (by decide) ?_
    refine lv_icmp_ne (tgt := 102) hx hb dX7_isWordAt_17 (by decide) (fun b3 => ?_) (fun b3 => ?_)
    · have hf4 := zNot hf10_ b3
      clear hf10_
      refine lv_iconst (v := 0) hx hb dX7_isWordAt_102 (by decide) ?_
      exact zy_zret X hr hlk Z10_ (by decide) (zEnd hf4) dX7_isWordAt_103
    · have hf5 := zYes hf10_ b3
      clear hf10_
      refine lv_aload_n hx hb dX7_isWordAt_20 rfl (lv_at hl1 1 rfl) ?_
      refine zy_get (v := .int (σ 0 16)) X Z10_ mL_ok mk_0 rfl rfl (fun w h => List.mem_cons_of_mem _ (List.mem_append_right _ h)) 16 rfl (zz_m 2 rfl) rfl dX7_isWordAt_21 ?_
      refine lv_aload_n hx hb dX7_isWordAt_24 rfl (lv_at hl1 1 rfl) ?_
      refine zy_get (v := .int (σ 0 15)) X Z10_ mL_ok mk_0 rfl rfl (fun w h => List.mem_cons_of_mem _ (List.mem_append_right _ h)) 15 rfl (zz_m 3 rfl) rfl dX7_isWordAt_25 ?_
      refine lv_isub hx hb dX7_isWordAt_28 ?_
      refine lv_iload hx hb dX7_isWordAt_29 (lv_at hl1 0 rfl) ?_
      refine lv_icmp_ne (tgt := 102) hx hb dX7_isWordAt_31 (by decide) (fun b6 => ?_) (fun b6 => ?_)
      · have hf7 := zNot hf5 b6
        clear hf5
        refine lv_iconst (v := 0) hx hb dX7_isWordAt_102 (by decide) ?_
        exact zy_zret X hr hlk Z10_ (by decide) (zEnd hf7) dX7_isWordAt_103
      · have hf8 := zYes hf5 b6
        clear hf5
        refine lv_aload_n hx hb dX7_isWordAt_34 rfl (lv_at hl1 1 rfl) ?_
        refine zy_get (v := .ref (ad 13)) X Z10_ mL_ok mk_0 rfl rfl (fun w h => List.mem_cons_of_mem _ (List.mem_append_right _ h)) 13 rfl (zz_m 4 rfl) rfl dX7_isWordAt_35 ?_
        refine lv_aload_n hx hb dX7_isWordAt_38 rfl (lv_at hl1 1 rfl) ?_
        refine zy_get (v := .int (σ 0 15)) X Z10_ mL_ok mk_0 rfl rfl (fun w h => List.mem_cons_of_mem _ (List.mem_append_right _ h)) 15 rfl (zz_m 3 rfl) rfl dX7_isWordAt_39 ?_
        obtain ⟨⟨i9, j10⟩, hf11⟩ := zG hf8
        clear hf8
        refine zy_ild X Z10_ mL_ok mk_13 ml_13 i9 dX7_isWordAt_42 ?_
        refine lv_iload_n hx hb dX7_isWordAt_43 rfl (lv_at hl1 2 rfl) ?_
        refine lv_icmp_ne (tgt := 102) hx hb dX7_isWordAt_44 (by decide) (fun b12 => ?_) (fun b12 => ?_)
        · have hf13 := zNot hf11 b12
          clear hf11
          refine lv_iconst (v := 0) hx hb dX7_isWordAt_102 (by decide) ?_
          exact zy_zret X hr hlk Z10_ (by decide) (zEnd hf13) dX7_isWordAt_103
        · have hf14 := zYes hf11 b12
          clear hf11
          refine lv_aload_n hx hb dX7_isWordAt_47 rfl (lv_at hl1 1 rfl) ?_
          refine zy_get (v := .ref (ad 13)) X Z10_ mL_ok mk_0 rfl rfl (fun w h => List.mem_cons_of_mem _ (List.mem_append_right _ h)) 13 rfl (zz_m 4 rfl) rfl dX7_isWordAt_48 ?_
          refine lv_aload_n hx hb dX7_isWordAt_51 rfl (lv_at hl1 1 rfl) ?_
          refine zy_get (v := .int (σ 0 15)) X Z10_ mL_ok mk_0 rfl rfl (fun w h => List.mem_cons_of_mem _ (List.mem_append_right _ h)) 15 rfl (zz_m 3 rfl) rfl dX7_isWordAt_52 ?_
          refine lv_iconst (v := 1) hx hb dX7_isWordAt_55 (by decide) ?_
          refine lv_iadd hx hb dX7_isWordAt_56 ?_
          obtain ⟨⟨i15, j16⟩, hf17⟩ := zG hf14
          clear hf14
          refine zy_ild X Z10_ mL_ok mk_13 ml_13 i15 dX7_isWordAt_57 ?_
          refine lv_iload_n hx hb dX7_isWordAt_58 rfl (lv_at hl1 3 rfl) ?_
          refine lv_icmp_ne (tgt := 102) hx hb dX7_isWordAt_59 (by decide) (fun b18 => ?_) (fun b18 => ?_)
          · have hf19 := zNot hf17 b18
            clear hf17
            refine lv_iconst (v := 0) hx hb dX7_isWordAt_102 (by decide) ?_
            exact zy_zret X hr hlk Z10_ (by decide) (zEnd hf19) dX7_isWordAt_103
          · have hf20 := zYes hf17 b18
            clear hf17
            refine lv_aload_n hx hb dX7_isWordAt_62 rfl (lv_at hl1 1 rfl) ?_
            refine zy_get (v := .ref (ad 13)) X Z10_ mL_ok mk_0 rfl rfl (fun w h => List.mem_cons_of_mem _ (List.mem_append_right _ h)) 13 rfl (zz_m 4 rfl) rfl dX7_isWordAt_63 ?_
            refine lv_aload_n hx hb dX7_isWordAt_66 rfl (lv_at hl1 1 rfl) ?_
            refine zy_get (v := .int (σ 0 15)) X Z10_ mL_ok mk_0 rfl rfl (fun w h => List.mem_cons_of_mem _ (List.mem_append_right _ h)) 15 rfl (zz_m 3 rfl) rfl dX7_isWordAt_67 ?_
            refine lv_iconst (v := 2) hx hb dX7_isWordAt_70 (by decide) ?_
            refine lv_iadd hx hb dX7_isWordAt_71 ?_
            obtain ⟨⟨i21, j22⟩, hf23⟩ := zG hf20
            clear hf20
            refine zy_ild X Z10_ mL_ok mk_13 ml_13 i21 dX7_isWordAt_72 ?_
            refine lv_iload_n hx hb dX7_isWordAt_73 rfl (lv_at hl1 4 rfl) ?_
            refine lv_icmp_ne (tgt := 102) hx hb dX7_isWordAt_74 (by decide) (fun b24 => ?_) (fun b24 => ?_)
            · have hf25 := zNot hf23 b24
              clear hf23
              refine lv_iconst (v := 0) hx hb dX7_isWordAt_102 (by decide) ?_
              exact zy_zret X hr hlk Z10_ (by decide) (zEnd hf25) dX7_isWordAt_103
            · have hf26 := zYes hf23 b24
              clear hf23
              refine lv_iload hx hb dX7_isWordAt_77 (lv_at hl1 5 rfl) ?_
              refine lv_if_eq (tgt := 98) hx hb dX7_isWordAt_79 (by decide) (fun b27 => ?_) (fun b27 => ?_)
              · have hf28 := zYes hf26 b27
                clear hf26
                refine lv_iconst (v := 1) hx hb dX7_isWordAt_98 (by decide) ?_
                refine lv_goto (tgt := 103) hx hb dX7_isWordAt_99 (by decide) ?_
                exact zy_zret X hr hlk Z10_ (by decide) (zEnd hf28) dX7_isWordAt_103
              · have hf29 := zNot hf26 b27
                clear hf26
                refine lv_aload_n hx hb dX7_isWordAt_82 rfl (lv_at hl1 1 rfl) ?_
                refine zy_get (v := .ref (ad 13)) X Z10_ mL_ok mk_0 rfl rfl (fun w h => List.mem_cons_of_mem _ (List.mem_append_right _ h)) 13 rfl (zz_m 4 rfl) rfl dX7_isWordAt_83 ?_
                refine lv_aload_n hx hb dX7_isWordAt_86 rfl (lv_at hl1 1 rfl) ?_
                refine zy_get (v := .int (σ 0 15)) X Z10_ mL_ok mk_0 rfl rfl (fun w h => List.mem_cons_of_mem _ (List.mem_append_right _ h)) 15 rfl (zz_m 3 rfl) rfl dX7_isWordAt_87 ?_
                refine lv_iconst (v := 3) hx hb dX7_isWordAt_90 (by decide) ?_
                refine lv_iadd hx hb dX7_isWordAt_91 ?_
                obtain ⟨⟨i30, j31⟩, hf32⟩ := zG hf29
                clear hf29
                refine zy_ild X Z10_ mL_ok mk_13 ml_13 i30 dX7_isWordAt_92 ?_
                refine lv_iload hx hb dX7_isWordAt_93 (lv_at hl1 5 rfl) ?_
                refine lv_icmp_ne (tgt := 102) hx hb dX7_isWordAt_95 (by decide) (fun b33 => ?_) (fun b33 => ?_)
                · have hf34 := zNot hf32 b33
                  clear hf32
                  refine lv_iconst (v := 0) hx hb dX7_isWordAt_102 (by decide) ?_
                  exact zy_zret X hr hlk Z10_ (by decide) (zEnd hf34) dX7_isWordAt_103
                · have hf35 := zYes hf32 b33
                  clear hf32
                  refine lv_iconst (v := 1) hx hb dX7_isWordAt_98 (by decide) ?_
                  refine lv_goto (tgt := 103) hx hb dX7_isWordAt_99 (by decide) ?_
                  exact zy_zret X hr hlk Z10_ (by decide) (zEnd hf35) dX7_isWordAt_103
  refine lv_iload hx hb dX7_isWordAt_0 (lv_at hl 4 rfl) ?_
  refine lv_if_ne (tgt := 9) hx hb dX7_isWordAt_2 (by decide) (fun b36 => ?_) (fun b36 => ?_)
  · have hf37 := zNot hf b36
    clear hf
    refine lv_iconst (v := 4) hx hb dX7_isWordAt_9 (by decide) ?_
    exact b10_ 4 σ hf37 _ _ _ Z (lv_sub hl [0, 1, 2, 3, 4] rfl)
  · have hf38 := zYes hf b36
    clear hf
    refine lv_iconst (v := 3) hx hb dX7_isWordAt_5 (by decide) ?_
    refine lv_goto (tgt := 10) hx hb dX7_isWordAt_6 (by decide) ?_
    exact b10_ 3 σ hf38 _ _ _ Z (lv_sub hl [0, 1, 2, 3, 4] rfl)
def f_X7_item (a1 : Int32) (a2 : Int32) (σ : zg_S) : Option (Int32 × zg_S) := zbd (f_X7_isSlot a1 σ) (fun (r1 : Int32) (σ2 : zg_S) => (if r1 = 0 then some ((-1000000001), σ2) else (if zin a1 5 = true then (if (σ2 7 (Int32.toNatClampNeg a1)) = 2 then zbd (f_X7_isIn (Int32.toInt64 a2) (Int32.toInt64 0) (Int32.toInt64 ((σ2 10 (Int32.toNatClampNeg a1)) - 1)) σ2) (fun (r15 : Int32) (σ16 : zg_S) => (if r15 = 0 then some ((-1000000013), σ16) else (if zin ((24 * a1) + a2) 120 = true then zlet (σ16 11 (Int32.toNatClampNeg ((24 * a1) + a2))) (fun (y27 : Int32) => (if y27 = (-1000000005) then some ((-1000000012), σ16) else some (y27, σ16))) else none))) else (if (σ2 7 (Int32.toNatClampNeg a1)) = 0 then some ((-1000000011), σ2) else some ((-1000000012), σ2))) else none)))
set_option maxHeartbeats 4000000 in
set_option maxRecDepth 100000 in
theorem c_X7_item (l : Launch) (D : va_G) (V : zz_V) (ad : Nat → Nat) (cA : Nat → ClassId) (a1 : Int32) (a2 : Int32)  (σ : zg_S) (r0 : Int32) (σf : zg_S) (hf : f_X7_item a1 a2 σ = some (r0, σf)) : zM_I l yX7_item wsX7_item 2 45 D V ML ad cA [.ref (ad 0), .int a1, .int a2] σ r0 σf := by
  intro sz
  refine Met.ofW (cc := cX7_item) (maxL := 4) (ret := (some .int)) (by decide) rfl ?_
  intro p e s m args below meth c s₁ B hml hv
  obtain ⟨rfl, hC⟩ := hv
  have hx := B.exec
  have hb := B.bytes
  have hr := B.returns
  have hts := atoms_spec (ws := wsX7_item) B.pre
  have hown : s.vm.findClass RX7 = some m.cls := findClass_of_methodNamed B.named
  have hlk := B.notSynchronized
  have X : CallFix p m c cX7_item 4 s _ wsX7_item RX7 := ⟨hx, hb, hml, hown, hts⟩
  have Z := zz_enter hC
  generalize va_A (zg_W ML ad cA σ) sz = A at Z ⊢
  have hl := lv_entry ([.ref (ad 0), .int a1, .int a2]) (n := 4) (Nat.le_of_ble_eq_true rfl)
  rw [lg_entry_eq]
  generalize (lg_sl ([.ref (ad 0), .int a1, .int a2]) ++ List.replicate (4 - (lg_sl ([.ref (ad 0), .int a1, .int a2])).length) Slot.unset).toArray = ls at hl ⊢
  have hl : lv_has ls 4 [(0, .ref (ad 0)), (1, .int a1), (2, .int a2)] := hl
  unfold f_X7_item at hf
  refine lv_iload_n hx hb dX7_item_0 rfl (lv_at hl 1 rfl) ?_
  obtain ⟨r1, σ2, hc3, hf4⟩ := zBd hf
  clear hf
  refine zy_ci (r0 := r1) (WS1 := zg_W ML ad cA σ2) (TYS1 := zg_T ML cA) Z (va_runS (As := [.int a1]) (rest := []) X (c_X7_isSlot l D V ad cA a1 σ r1 σ2 hc3 s.heap.size) (va_cwS 1 hts gX7_item_X7_isSlot rfl rfl rfl zh_X7_isSlot ⟨Nat.le_of_ble_eq_true rfl, Nat.le_of_ble_eq_true rfl⟩) (zz_pS Z) rfl rfl hl.1 rfl (lv_room (Nat.le_of_ble_eq_true rfl)) dX7_item_1 ⟨Nat.le_of_ble_eq_true rfl, Nat.le_of_ble_eq_true rfl⟩) (fun H5 lo6 Z7 => ?_)
  clear Z hc3
  refine lv_if_ne (tgt := 10) hx hb dX7_item_4 (by decide) (fun b8 => ?_) (fun b8 => ?_)
  · have hf9 := zNot hf4 b8
    clear hf4
    refine lv_aload_n hx hb dX7_item_10 rfl (lv_at hl 0 rfl) ?_
    refine zy_get (v := .ref (ad 7)) X Z7 mL_ok mk_0 rfl rfl (fun w h => List.mem_cons_of_mem _ (List.mem_append_right _ h)) 7 rfl (zz_m 2 rfl) rfl dX7_item_11 ?_
    refine lv_iload_n hx hb dX7_item_14 rfl (lv_at hl 1 rfl) ?_
    obtain ⟨⟨i10, j11⟩, hf12⟩ := zG hf9
    clear hf9
    refine zy_ild X Z7 mL_ok mk_7 ml_7 i10 dX7_item_15 ?_
    refine lv_iconst (v := 2) hx hb dX7_item_16 (by decide) ?_
    refine lv_icmp_eq (tgt := 38) hx hb dX7_item_17 (by decide) (fun b13 => ?_) (fun b13 => ?_)
    · have hf14 := zYes hf12 b13
      clear hf12
      refine lv_iload_n hx hb dX7_item_38 rfl (lv_at hl 2 rfl) ?_
      refine lv_i2l (v := Int32.toInt64 a2) hx hb dX7_item_39 rfl ?_
      refine lv_lconst (v := 0) hx hb dX7_item_40 (by decide) ?_
      refine zz_vl (v := Int32.toInt64 0) (by decide) ?_
      refine lv_aload_n hx hb dX7_item_41 rfl (lv_at hl 0 rfl) ?_
      refine zy_get (v := .ref (ad 10)) X Z7 mL_ok mk_0 rfl rfl (fun w h => List.mem_cons_of_mem _ (List.mem_append_right _ h)) 10 rfl (zz_m 5 rfl) rfl dX7_item_42 ?_
      refine lv_iload_n hx hb dX7_item_45 rfl (lv_at hl 1 rfl) ?_
      refine zy_ild X Z7 mL_ok mk_10 ml_10 i10 dX7_item_46 ?_
      refine lv_iconst (v := 1) hx hb dX7_item_47 (by decide) ?_
      refine lv_isub hx hb dX7_item_48 ?_
      refine lv_i2l (v := Int32.toInt64 ((σ2 10 (Int32.toNatClampNeg a1)) - 1)) hx hb dX7_item_49 rfl ?_
      obtain ⟨r15, σ16, hc17, hf18⟩ := zBd hf14
      clear hf14
      refine zy_ci (r0 := r15) (WS1 := zg_W ML ad cA σ16) (TYS1 := zg_T ML cA) Z7 (va_runS (As := [.long (Int32.toInt64 a2), .long (Int32.toInt64 0), .long (Int32.toInt64 ((σ2 10 (Int32.toNatClampNeg a1)) - 1))]) (rest := []) X (c_X7_isIn l D V ad cA (Int32.toInt64 a2) (Int32.toInt64 0) (Int32.toInt64 ((σ2 10 (Int32.toNatClampNeg a1)) - 1)) σ2 r15 σ16 hc17 H5.size) (va_cwS 3 hts gX7_item_X7_isIn rfl rfl rfl zh_X7_isIn ⟨Nat.le_of_ble_eq_true rfl, Nat.le_of_ble_eq_true rfl⟩) (zz_pS Z7) rfl rfl hl.1 rfl (lv_room (Nat.le_of_ble_eq_true rfl)) dX7_item_50 ⟨Nat.le_of_ble_eq_true rfl, Nat.le_of_ble_eq_true rfl⟩) (fun H19 lo20 Z21 => ?_)
      clear Z7 hc17
      refine lv_if_ne (tgt := 60) hx hb dX7_item_53 (by decide) (fun b22 => ?_) (fun b22 => ?_)
      · have hf23 := zNot hf18 b22
        clear hf18
        refine lv_aload_n hx hb dX7_item_60 rfl (lv_at hl 0 rfl) ?_
        refine zy_get (v := .ref (ad 11)) X Z21 mL_ok mk_0 rfl rfl (fun w h => List.mem_cons_of_mem _ (List.mem_append_right _ h)) 11 rfl (zz_m 7 rfl) rfl dX7_item_61 ?_
        refine lv_bipush (v := 24) hx hb dX7_item_64 (by decide) ?_
        refine lv_iload_n hx hb dX7_item_66 rfl (lv_at hl 1 rfl) ?_
        refine lv_imul hx hb dX7_item_67 ?_
        refine lv_iload_n hx hb dX7_item_68 rfl (lv_at hl 2 rfl) ?_
        refine lv_iadd hx hb dX7_item_69 ?_
        obtain ⟨⟨i24, j25⟩, hf26⟩ := zG hf23
        clear hf23
        refine zy_ild X Z21 mL_ok mk_11 ml_11 i24 dX7_item_70 ?_
        obtain ⟨y27, ey28, hf29⟩ := zLet hf26
        clear hf26
        refine zz_v (v := y27) ey28.symm ?_
        clear ey28
        refine lv_istore_n (lv' := [(3, .int y27), (0, .ref (ad 0)), (1, .int a1), (2, .int a2)]) hx hb dX7_item_71 rfl hl (by decide) rfl (fun ls31 hl30 => ?_)
        clear hl
        refine lv_iload_n hx hb dX7_item_72 rfl (lv_at hl30 0 rfl) ?_
        refine lv_ldc (v := (-1000000005)) hx hb hown (hts _ (zz_m 8 rfl)) dX7_item_73 ?_
        refine lv_icmp_ne (tgt := 83) hx hb dX7_item_75 (by decide) (fun b32 => ?_) (fun b32 => ?_)
        · have hf33 := zNot hf29 b32
          clear hf29
          refine lv_iload_n hx hb dX7_item_83 rfl (lv_at hl30 0 rfl) ?_
          exact zy_iret X hr hlk Z21 (zEnd hf33) dX7_item_84
        · have hf34 := zYes hf29 b32
          clear hf29
          refine lv_ldc (v := (-1000000012)) hx hb hown (hts _ (zz_m 4 rfl)) dX7_item_78 ?_
          refine lv_goto (tgt := 84) hx hb dX7_item_80 (by decide) ?_
          exact zy_iret X hr hlk Z21 (zEnd hf34) dX7_item_84
      · have hf35 := zYes hf18 b22
        clear hf18
        refine lv_ldcw (v := (-1000000013)) hx hb hown (hts _ (zz_m 6 rfl)) dX7_item_56 ?_
        exact zy_iret X hr hlk Z21 (zEnd hf35) dX7_item_59
    · have hf36 := zNot hf12 b13
      clear hf12
      refine lv_aload_n hx hb dX7_item_20 rfl (lv_at hl 0 rfl) ?_
      refine zy_get (v := .ref (ad 7)) X Z7 mL_ok mk_0 rfl rfl (fun w h => List.mem_cons_of_mem _ (List.mem_append_right _ h)) 7 rfl (zz_m 2 rfl) rfl dX7_item_21 ?_
      refine lv_iload_n hx hb dX7_item_24 rfl (lv_at hl 1 rfl) ?_
      refine zy_ild X Z7 mL_ok mk_7 ml_7 i10 dX7_item_25 ?_
      refine lv_if_ne (tgt := 35) hx hb dX7_item_26 (by decide) (fun b37 => ?_) (fun b37 => ?_)
      · have hf38 := zNot hf36 b37
        clear hf36
        refine lv_ldc (v := (-1000000012)) hx hb hown (hts _ (zz_m 4 rfl)) dX7_item_35 ?_
        exact zy_iret X hr hlk Z7 (zEnd hf38) dX7_item_37
      · have hf39 := zYes hf36 b37
        clear hf36
        refine lv_ldcw (v := (-1000000011)) hx hb hown (hts _ (zz_m 3 rfl)) dX7_item_29 ?_
        refine lv_goto (tgt := 37) hx hb dX7_item_32 (by decide) ?_
        exact zy_iret X hr hlk Z7 (zEnd hf39) dX7_item_37
  · have hf40 := zYes hf4 b8
    clear hf4
    refine lv_ldc (v := (-1000000001)) hx hb hown (hts _ (zz_m 1 rfl)) dX7_item_7 ?_
    exact zy_iret X hr hlk Z7 (zEnd hf40) dX7_item_9
def f_X7_keep  (σ : zg_S) : Option (Int32 × zg_S) := zlet (zg_up σ 0 3 1) (fun (σ1 : zg_S) => zbd (f_X7_setAside 1 2 σ1) (fun (r7 : Int32) (σ8 : zg_S) => some (σ8 1 0, σ8)))
set_option maxHeartbeats 4000000 in
set_option maxRecDepth 100000 in
theorem c_X7_keep (l : Launch) (D : va_G) (V : zz_V) (ad : Nat → Nat) (cA : Nat → ClassId)   (σ : zg_S) (r0 : Int32) (σf : zg_S) (hf : f_X7_keep  σ = some (r0, σf)) : zM_I l yX7_keep wsX7_keep 1 23 D V ML ad cA [.ref (ad 0)] σ r0 σf := by
  intro sz
  refine Met.ofW (cc := cX7_keep) (maxL := 1) (ret := (some .int)) (by decide) rfl ?_
  intro p e s m args below meth c s₁ B hml hv
  obtain ⟨rfl, hC⟩ := hv
  have hx := B.exec
  have hb := B.bytes
  have hr := B.returns
  have hts := atoms_spec (ws := wsX7_keep) B.pre
  have hown : s.vm.findClass RX7 = some m.cls := findClass_of_methodNamed B.named
  have hlk := B.notSynchronized
  have X : CallFix p m c cX7_keep 1 s _ wsX7_keep RX7 := ⟨hx, hb, hml, hown, hts⟩
  have Z := zz_enter hC
  generalize va_A (zg_W ML ad cA σ) sz = A at Z ⊢
  have hl := lv_entry ([.ref (ad 0)]) (n := 1) (Nat.le_of_ble_eq_true rfl)
  rw [lg_entry_eq]
  generalize (lg_sl ([.ref (ad 0)]) ++ List.replicate (1 - (lg_sl ([.ref (ad 0)])).length) Slot.unset).toArray = ls at hl ⊢
  have hl : lv_has ls 1 [(0, .ref (ad 0))] := hl
  unfold f_X7_keep at hf
  refine lv_aload_n hx hb dX7_keep_0 rfl (lv_at hl 0 rfl) ?_
  refine lv_iconst (v := 1) hx hb dX7_keep_1 (by decide) ?_
  obtain ⟨σ1, es2, hf3⟩ := zLet hf
  clear hf
  refine zy_put (v := 1) (σ' := σ1) X Z mL_ok mk_0 rfl rfl (fun w h => List.mem_cons_of_mem _ (List.mem_append_right _ h)) tyX7 tyX7_ok nmX7 3 rfl (zz_m 1 rfl) rfl (by decide) (by decide) (fun _ => rfl) (fun _ => rfl) es2 dX7_keep_2 (fun H4 lo5 Z6 => ?_)
  clear Z es2
  refine lv_aload_n hx hb dX7_keep_5 rfl (lv_at hl 0 rfl) ?_
  refine lv_aload_n hx hb dX7_keep_6 rfl (lv_at hl 0 rfl) ?_
  refine zy_get (v := .ref (ad 1)) X Z6 mL_ok mk_0 rfl rfl (fun w h => List.mem_cons_of_mem _ (List.mem_append_right _ h)) 0 rfl (zz_m 2 rfl) rfl dX7_keep_7 ?_
  refine lv_aload_n hx hb dX7_keep_10 rfl (lv_at hl 0 rfl) ?_
  refine zy_get (v := .ref (ad 2)) X Z6 mL_ok mk_0 rfl rfl (fun w h => List.mem_cons_of_mem _ (List.mem_append_right _ h)) 1 rfl (zz_m 3 rfl) rfl dX7_keep_11 ?_
  obtain ⟨r7, σ8, hc9, hf10⟩ := zBd hf3
  clear hf3
  refine zy_cv (WS1 := zg_W ML ad cA σ8) (TYS1 := zg_T ML cA) Z6 (va_runV (As := [.ref (ad 1), .ref (ad 2)]) (rest := []) X (c_X7_setAside l D V ad cA 1 2 mk_1 mk_2 σ1 r7 σ8 hc9 H4.size) (cwV 2 hts gX7_keep_X7_setAside rfl rfl rfl ⟨rfl, zh_X7_setAside⟩ ⟨Nat.le_of_ble_eq_true rfl, Nat.le_of_ble_eq_true rfl⟩) (zy_pV (ci := 7) Z6 mL_ok mk_0 rfl rfl) rfl rfl hl.1 rfl (lv_room (Nat.le_of_ble_eq_true rfl)) dX7_keep_14 ⟨Nat.le_of_ble_eq_true rfl, Nat.le_of_ble_eq_true rfl⟩) (fun H11 lo12 Z13 => ?_)
  clear Z6 hc9
  refine lv_aload_n hx hb dX7_keep_17 rfl (lv_at hl 0 rfl) ?_
  refine zy_get (v := .ref (ad 1)) X Z13 mL_ok mk_0 rfl rfl (fun w h => List.mem_cons_of_mem _ (List.mem_append_right _ h)) 0 rfl (zz_m 2 rfl) rfl dX7_keep_18 ?_
  refine lv_iconst (v := 0) hx hb dX7_keep_21 (by decide) ?_
  refine zy_ild X Z13 mL_ok mk_1 ml_1 (zz_in 0 3047 rfl) dX7_keep_22 ?_
  refine zz_v (v := σ8 1 0) rfl ?_
  exact zy_iret X hr hlk Z13 (zEnd hf10) dX7_keep_23
def f_X7_key  (σ : zg_S) : Option (Int32 × zg_S) := zbd (f_X7_isWordAt 109 101 108 116 σ) (fun (r1 : Int32) (σ2 : zg_S) => (if r1 = 0 then zbd (f_X7_isWordAt 102 101 101 0 σ2) (fun (r10 : Int32) (σ11 : zg_S) => (if r10 = 0 then zbd (f_X7_isWordAt 102 105 110 101 σ11) (fun (r19 : Int32) (σ20 : zg_S) => (if r19 = 0 then some ((-1), σ20) else some (2, σ20))) else some (1, σ11))) else some (0, σ2)))
set_option maxHeartbeats 4000000 in
set_option maxRecDepth 100000 in
theorem c_X7_key (l : Launch) (D : va_G) (V : zz_V) (ad : Nat → Nat) (cA : Nat → ClassId)   (σ : zg_S) (r0 : Int32) (σf : zg_S) (hf : f_X7_key  σ = some (r0, σf)) : zM_I l yX7_key wsX7_key 1 25 D V ML ad cA [.ref (ad 0)] σ r0 σf := by
  intro sz
  refine Met.ofW (cc := cX7_key) (maxL := 1) (ret := (some .int)) (by decide) rfl ?_
  intro p e s m args below meth c s₁ B hml hv
  obtain ⟨rfl, hC⟩ := hv
  have hx := B.exec
  have hb := B.bytes
  have hr := B.returns
  have hts := atoms_spec (ws := wsX7_key) B.pre
  have hown : s.vm.findClass RX7 = some m.cls := findClass_of_methodNamed B.named
  have hlk := B.notSynchronized
  have X : CallFix p m c cX7_key 1 s _ wsX7_key RX7 := ⟨hx, hb, hml, hown, hts⟩
  have Z := zz_enter hC
  generalize va_A (zg_W ML ad cA σ) sz = A at Z ⊢
  have hl := lv_entry ([.ref (ad 0)]) (n := 1) (Nat.le_of_ble_eq_true rfl)
  rw [lg_entry_eq]
  generalize (lg_sl ([.ref (ad 0)]) ++ List.replicate (1 - (lg_sl ([.ref (ad 0)])).length) Slot.unset).toArray = ls at hl ⊢
  have hl : lv_has ls 1 [(0, .ref (ad 0))] := hl
  unfold f_X7_key at hf
  refine lv_aload_n hx hb dX7_key_0 rfl (lv_at hl 0 rfl) ?_
  refine lv_bipush (v := 109) hx hb dX7_key_1 (by decide) ?_
  refine lv_bipush (v := 101) hx hb dX7_key_3 (by decide) ?_
  refine lv_bipush (v := 108) hx hb dX7_key_5 (by decide) ?_
  refine lv_bipush (v := 116) hx hb dX7_key_7 (by decide) ?_
  obtain ⟨r1, σ2, hc3, hf4⟩ := zBd hf
  clear hf
  refine zy_ci (r0 := r1) (WS1 := zg_W ML ad cA σ2) (TYS1 := zg_T ML cA) Z (va_runV (As := [.int 109, .int 101, .int 108, .int 116]) (rest := []) X (c_X7_isWordAt l D V ad cA 109 101 108 116 σ r1 σ2 hc3 s.heap.size) (cwV 4 hts gX7_key_X7_isWordAt rfl rfl rfl ⟨rfl, zh_X7_isWordAt⟩ ⟨Nat.le_of_ble_eq_true rfl, Nat.le_of_ble_eq_true rfl⟩) (zy_pV (ci := 7) Z mL_ok mk_0 rfl rfl) rfl rfl hl.1 rfl (lv_room (Nat.le_of_ble_eq_true rfl)) dX7_key_9 ⟨Nat.le_of_ble_eq_true rfl, Nat.le_of_ble_eq_true rfl⟩) (fun H5 lo6 Z7 => ?_)
  clear Z hc3
  refine lv_if_eq (tgt := 17) hx hb dX7_key_12 (by decide) (fun b8 => ?_) (fun b8 => ?_)
  · have hf9 := zYes hf4 b8
    clear hf4
    refine lv_aload_n hx hb dX7_key_17 rfl (lv_at hl 0 rfl) ?_
    refine lv_bipush (v := 102) hx hb dX7_key_18 (by decide) ?_
    refine lv_bipush (v := 101) hx hb dX7_key_20 (by decide) ?_
    refine lv_bipush (v := 101) hx hb dX7_key_22 (by decide) ?_
    refine lv_iconst (v := 0) hx hb dX7_key_24 (by decide) ?_
    obtain ⟨r10, σ11, hc12, hf13⟩ := zBd hf9
    clear hf9
    refine zy_ci (r0 := r10) (WS1 := zg_W ML ad cA σ11) (TYS1 := zg_T ML cA) Z7 (va_runV (As := [.int 102, .int 101, .int 101, .int 0]) (rest := []) X (c_X7_isWordAt l D V ad cA 102 101 101 0 σ2 r10 σ11 hc12 H5.size) (cwV 4 hts gX7_key_X7_isWordAt rfl rfl rfl ⟨rfl, zh_X7_isWordAt⟩ ⟨Nat.le_of_ble_eq_true rfl, Nat.le_of_ble_eq_true rfl⟩) (zy_pV (ci := 7) Z7 mL_ok mk_0 rfl rfl) rfl rfl hl.1 rfl (lv_room (Nat.le_of_ble_eq_true rfl)) dX7_key_25 ⟨Nat.le_of_ble_eq_true rfl, Nat.le_of_ble_eq_true rfl⟩) (fun H14 lo15 Z16 => ?_)
    clear Z7 hc12
    refine lv_if_eq (tgt := 33) hx hb dX7_key_28 (by decide) (fun b17 => ?_) (fun b17 => ?_)
    · have hf18 := zYes hf13 b17
      clear hf13
      refine lv_aload_n hx hb dX7_key_33 rfl (lv_at hl 0 rfl) ?_
      refine lv_bipush (v := 102) hx hb dX7_key_34 (by decide) ?_
      refine lv_bipush (v := 105) hx hb dX7_key_36 (by decide) ?_
      refine lv_bipush (v := 110) hx hb dX7_key_38 (by decide) ?_
      refine lv_bipush (v := 101) hx hb dX7_key_40 (by decide) ?_
      obtain ⟨r19, σ20, hc21, hf22⟩ := zBd hf18
      clear hf18
      refine zy_ci (r0 := r19) (WS1 := zg_W ML ad cA σ20) (TYS1 := zg_T ML cA) Z16 (va_runV (As := [.int 102, .int 105, .int 110, .int 101]) (rest := []) X (c_X7_isWordAt l D V ad cA 102 105 110 101 σ11 r19 σ20 hc21 H14.size) (cwV 4 hts gX7_key_X7_isWordAt rfl rfl rfl ⟨rfl, zh_X7_isWordAt⟩ ⟨Nat.le_of_ble_eq_true rfl, Nat.le_of_ble_eq_true rfl⟩) (zy_pV (ci := 7) Z16 mL_ok mk_0 rfl rfl) rfl rfl hl.1 rfl (lv_room (Nat.le_of_ble_eq_true rfl)) dX7_key_42 ⟨Nat.le_of_ble_eq_true rfl, Nat.le_of_ble_eq_true rfl⟩) (fun H23 lo24 Z25 => ?_)
      clear Z16 hc21
      refine lv_if_eq (tgt := 52) hx hb dX7_key_45 (by decide) (fun b26 => ?_) (fun b26 => ?_)
      · have hf27 := zYes hf22 b26
        clear hf22
        refine lv_iconst (v := (-1)) hx hb dX7_key_52 (by decide) ?_
        exact zy_iret X hr hlk Z25 (zEnd hf27) dX7_key_53
      · have hf28 := zNot hf22 b26
        clear hf22
        refine lv_iconst (v := 2) hx hb dX7_key_48 (by decide) ?_
        refine lv_goto (tgt := 53) hx hb dX7_key_49 (by decide) ?_
        exact zy_iret X hr hlk Z25 (zEnd hf28) dX7_key_53
    · have hf29 := zNot hf13 b17
      clear hf13
      refine lv_iconst (v := 1) hx hb dX7_key_31 (by decide) ?_
      exact zy_iret X hr hlk Z16 (zEnd hf29) dX7_key_32
  · have hf30 := zNot hf4 b8
    clear hf4
    refine lv_iconst (v := 0) hx hb dX7_key_15 (by decide) ?_
    exact zy_iret X hr hlk Z7 (zEnd hf30) dX7_key_16
def f_X7_worth (a1 : Int32) (σ : zg_S) : Option (Int32 × zg_S) := zbd (f_X7_of a1 3 σ) (fun (r1 : Int32) (σ2 : zg_S) => zbd (f_X7_of a1 0 σ2) (fun (r10 : Int32) (σ11 : zg_S) => (if r10 = 1 then some (r1 + 6, σ11) else (if r10 = 2 then some (99 - r1, σ11) else (if r10 = 3 then some (2 * (r1 + 6), σ11) else (if r10 = 4 then some (91 - r1, σ11) else (if r10 = 5 then some (2, σ11) else some (r1, σ11))))))))
set_option maxHeartbeats 4000000 in
set_option maxRecDepth 100000 in
theorem c_X7_worth (l : Launch) (D : va_G) (V : zz_V) (ad : Nat → Nat) (cA : Nat → ClassId) (a1 : Int32)  (σ : zg_S) (r0 : Int32) (σf : zg_S) (hf : f_X7_worth a1 σ = some (r0, σf)) : zM_I l yX7_worth wsX7_worth 1 22 D V ML ad cA [.ref (ad 0), .int a1] σ r0 σf := by
  intro sz
  refine Met.ofW (cc := cX7_worth) (maxL := 3) (ret := (some .int)) (by decide) rfl ?_
  intro p e s m args below meth c s₁ B hml hv
  obtain ⟨rfl, hC⟩ := hv
  have hx := B.exec
  have hb := B.bytes
  have hr := B.returns
  have hts := atoms_spec (ws := wsX7_worth) B.pre
  have hown : s.vm.findClass RX7 = some m.cls := findClass_of_methodNamed B.named
  have hlk := B.notSynchronized
  have X : CallFix p m c cX7_worth 3 s _ wsX7_worth RX7 := ⟨hx, hb, hml, hown, hts⟩
  have Z := zz_enter hC
  generalize va_A (zg_W ML ad cA σ) sz = A at Z ⊢
  have hl := lv_entry ([.ref (ad 0), .int a1]) (n := 3) (Nat.le_of_ble_eq_true rfl)
  rw [lg_entry_eq]
  generalize (lg_sl ([.ref (ad 0), .int a1]) ++ List.replicate (3 - (lg_sl ([.ref (ad 0), .int a1])).length) Slot.unset).toArray = ls at hl ⊢
  have hl : lv_has ls 3 [(0, .ref (ad 0)), (1, .int a1)] := hl
  unfold f_X7_worth at hf
  refine lv_aload_n hx hb dX7_worth_0 rfl (lv_at hl 0 rfl) ?_
  refine lv_iload_n hx hb dX7_worth_1 rfl (lv_at hl 1 rfl) ?_
  refine lv_iconst (v := 3) hx hb dX7_worth_2 (by decide) ?_
  obtain ⟨r1, σ2, hc3, hf4⟩ := zBd hf
  clear hf
  refine zy_ci (r0 := r1) (WS1 := zg_W ML ad cA σ2) (TYS1 := zg_T ML cA) Z (va_runV (As := [.int a1, .int 3]) (rest := []) X (c_X7_of l D V ad cA a1 3 σ r1 σ2 hc3 s.heap.size) (cwV 2 hts gX7_worth_X7_of rfl rfl rfl ⟨rfl, zh_X7_of⟩ ⟨Nat.le_of_ble_eq_true rfl, Nat.le_of_ble_eq_true rfl⟩) (zy_pV (ci := 7) Z mL_ok mk_0 rfl rfl) rfl rfl hl.1 rfl (lv_room (Nat.le_of_ble_eq_true rfl)) dX7_worth_3 ⟨Nat.le_of_ble_eq_true rfl, Nat.le_of_ble_eq_true rfl⟩) (fun H5 lo6 Z7 => ?_)
  clear Z hc3
  refine lv_istore_n (lv' := [(2, .int r1), (0, .ref (ad 0)), (1, .int a1)]) hx hb dX7_worth_6 rfl hl (by decide) rfl (fun ls9 hl8 => ?_)
  clear hl
  refine lv_aload_n hx hb dX7_worth_7 rfl (lv_at hl8 1 rfl) ?_
  refine lv_iload_n hx hb dX7_worth_8 rfl (lv_at hl8 2 rfl) ?_
  refine lv_iconst (v := 0) hx hb dX7_worth_9 (by decide) ?_
  obtain ⟨r10, σ11, hc12, hf13⟩ := zBd hf4
  clear hf4
  refine zy_ci (r0 := r10) (WS1 := zg_W ML ad cA σ11) (TYS1 := zg_T ML cA) Z7 (va_runV (As := [.int a1, .int 0]) (rest := []) X (c_X7_of l D V ad cA a1 0 σ2 r10 σ11 hc12 H5.size) (cwV 2 hts gX7_worth_X7_of rfl rfl rfl ⟨rfl, zh_X7_of⟩ ⟨Nat.le_of_ble_eq_true rfl, Nat.le_of_ble_eq_true rfl⟩) (zy_pV (ci := 7) Z7 mL_ok mk_0 rfl rfl) rfl rfl hl8.1 rfl (lv_room (Nat.le_of_ble_eq_true rfl)) dX7_worth_10 ⟨Nat.le_of_ble_eq_true rfl, Nat.le_of_ble_eq_true rfl⟩) (fun H14 lo15 Z16 => ?_)
  clear Z7 hc12
  by_cases w17 : r10 = 1
  · have hf18 := zYes hf13 w17
    clear hf13
    refine zz_v w17 ?_
    refine lv_tableIn (x := 1) (off := 35) (tgt := 48) hx hb dX7_worth_13 (by decide) (by decide) rfl (by decide) ?_
    refine lv_iload_n hx hb dX7_worth_48 rfl (lv_at hl8 0 rfl) ?_
    refine lv_bipush (v := 6) hx hb dX7_worth_49 (by decide) ?_
    refine lv_iadd hx hb dX7_worth_51 ?_
    exact zy_iret X hr hlk Z16 (zEnd hf18) dX7_worth_52
  · have hf19 := zNot hf13 w17
    clear hf13
    by_cases w20 : r10 = 2
    · have hf21 := zYes hf19 w20
      clear hf19
      refine zz_v w20 ?_
      refine lv_tableIn (x := 2) (off := 40) (tgt := 53) hx hb dX7_worth_13 (by decide) (by decide) rfl (by decide) ?_
      refine lv_bipush (v := 99) hx hb dX7_worth_53 (by decide) ?_
      refine lv_iload_n hx hb dX7_worth_55 rfl (lv_at hl8 0 rfl) ?_
      refine lv_isub hx hb dX7_worth_56 ?_
      exact zy_iret X hr hlk Z16 (zEnd hf21) dX7_worth_57
    · have hf22 := zNot hf19 w20
      clear hf19
      by_cases w23 : r10 = 3
      · have hf24 := zYes hf22 w23
        clear hf22
        refine zz_v w23 ?_
        refine lv_tableIn (x := 3) (off := 45) (tgt := 58) hx hb dX7_worth_13 (by decide) (by decide) rfl (by decide) ?_
        refine lv_iconst (v := 2) hx hb dX7_worth_58 (by decide) ?_
        refine lv_iload_n hx hb dX7_worth_59 rfl (lv_at hl8 0 rfl) ?_
        refine lv_bipush (v := 6) hx hb dX7_worth_60 (by decide) ?_
        refine lv_iadd hx hb dX7_worth_62 ?_
        refine lv_imul hx hb dX7_worth_63 ?_
        exact zy_iret X hr hlk Z16 (zEnd hf24) dX7_worth_64
      · have hf25 := zNot hf22 w23
        clear hf22
        by_cases w26 : r10 = 4
        · have hf27 := zYes hf25 w26
          clear hf25
          refine zz_v w26 ?_
          refine lv_tableIn (x := 4) (off := 52) (tgt := 65) hx hb dX7_worth_13 (by decide) (by decide) rfl (by decide) ?_
          refine lv_bipush (v := 91) hx hb dX7_worth_65 (by decide) ?_
          refine lv_iload_n hx hb dX7_worth_67 rfl (lv_at hl8 0 rfl) ?_
          refine lv_isub hx hb dX7_worth_68 ?_
          exact zy_iret X hr hlk Z16 (zEnd hf27) dX7_worth_69
        · have hf28 := zNot hf25 w26
          clear hf25
          by_cases w29 : r10 = 5
          · have hf30 := zYes hf28 w29
            clear hf28
            refine zz_v w29 ?_
            refine lv_tableIn (x := 5) (off := 57) (tgt := 70) hx hb dX7_worth_13 (by decide) (by decide) rfl (by decide) ?_
            refine lv_iconst (v := 2) hx hb dX7_worth_70 (by decide) ?_
            exact zy_iret X hr hlk Z16 (zEnd hf30) dX7_worth_71
          · have hf31 := zNot hf28 w29
            clear hf28
            have n32 := zNe (k := 1) (y := 1) (by decide) w17
            have n33 := zNe (k := 2) (y := 2) (by decide) w20
            have n34 := zNe (k := 3) (y := 3) (by decide) w23
            have n35 := zNe (k := 4) (y := 4) (by decide) w26
            have n36 := zNe (k := 5) (y := 5) (by decide) w29
            refine lv_tableOut (tgt := 72) hx hb dX7_worth_13 (by omega) (by decide) ?_
            refine lv_iload_n hx hb dX7_worth_72 rfl (lv_at hl8 0 rfl) ?_
            exact zy_iret X hr hlk Z16 (zEnd hf31) dX7_worth_73
def B_X7_lay_150 (a1 : Int32) (a2 : Int32) (a3 : Int32) (rec150_ : Int32 → Int32 → zg_S → Option (Int32 × zg_S)) (x5 : Int32) (x6 : Int32) (σ : zg_S) : Option (Int32 × zg_S) := (if 24 ≤ x6 then some (x5, σ) else (if zin ((24 * a3) + x6) 96 = true then zlet (σ 6 (Int32.toNatClampNeg ((24 * a3) + x6))) (fun (y7 : Int32) => (if zin ((24 * a1) + x6) 120 = true then zlet (zg_up σ 11 (Int32.toNatClampNeg ((24 * a1) + x6)) y7) (fun (σ13 : zg_S) => rec150_ x5 (x6 + 1) σ13) else none)) else none))
def L_X7_lay_150 (a1 : Int32) (a2 : Int32) (a3 : Int32) : Nat → Int32 → Int32 → zg_S → Option (Int32 × zg_S) := zfix (fun _ _ _ => none) (B_X7_lay_150 a1 a2 a3)
def B_X7_lay_129 (a1 : Int32) (a2 : Int32) (a3 : Int32) (x5 : Int32) (y0 : Int32) (y1 : Int32) (σ : zg_S) : Option (Int32 × zg_S) := (if zin y1 5 = true then zlet (zg_up σ 9 (Int32.toNatClampNeg y1) y0) (fun (σ24 : zg_S) => (if a2 = 2 then (if zin a3 4 = true then zlet (σ24 5 (Int32.toNatClampNeg a3)) (fun (y36 : Int32) => (if zin a1 5 = true then zlet (zg_up σ24 10 (Int32.toNatClampNeg a1) y36) (fun (σ42 : zg_S) => L_X7_lay_150 a1 a2 a3 zfu x5 0 σ42) else none)) else none) else some (x5, σ24))) else none)
def B_X7_lay_109 (a1 : Int32) (a2 : Int32) (a3 : Int32) (x5 : Int32) (y0 : Int32) (y1 : Int32) (σ : zg_S) : Option (Int32 × zg_S) := (if zin y1 5 = true then zlet (zg_up σ 8 (Int32.toNatClampNeg y1) y0) (fun (σ53 : zg_S) => (if a2 = 1 then zbd (f_X7_worth a3 σ53) (fun (r62 : Int32) (σ63 : zg_S) => B_X7_lay_129 a1 a2 a3 x5 r62 a1 σ63) else B_X7_lay_129 a1 a2 a3 x5 0 a1 σ53)) else none)
def B_X7_lay_74 (a1 : Int32) (a2 : Int32) (a3 : Int32) (σ : zg_S) : Option (Int32 × zg_S) := (if zin a1 5 = true then zlet (zg_up σ 7 (Int32.toNatClampNeg a1) a2) (fun (σ74 : zg_S) => (if a2 = 1 then zbd (f_X7_of a3 0 σ74) (fun (r83 : Int32) (σ84 : zg_S) => B_X7_lay_109 a1 a2 a3 (σ 7 (Int32.toNatClampNeg a1)) r83 a1 σ84) else B_X7_lay_109 a1 a2 a3 (σ 7 (Int32.toNatClampNeg a1)) a3 a1 σ74)) else none)
def B_X7_lay_39 (a1 : Int32) (a2 : Int32) (a3 : Int32) (y0 : Int32) (σ : zg_S) : Option (Int32 × zg_S) := zbd (f_X7_isSlot a1 σ) (fun (r92 : Int32) (σ93 : zg_S) => (if r92 = 0 then some ((-1000000001), σ93) else (if y0 = 0 then some ((-1000000001), σ93) else (if a2 = 2 then (if zin a3 4 = true then (if 0 ≤ (σ93 4 (Int32.toNatClampNeg a3)) then B_X7_lay_74 a1 a2 a3 σ93 else some ((-1000000011), σ93)) else none) else B_X7_lay_74 a1 a2 a3 σ93))))
def B_X7_lay_34 (a1 : Int32) (a2 : Int32) (a3 : Int32) (σ : zg_S) : Option (Int32 × zg_S) := B_X7_lay_39 a1 a2 a3 1 σ
def B_X7_lay_38 (a1 : Int32) (a2 : Int32) (a3 : Int32) (σ : zg_S) : Option (Int32 × zg_S) := B_X7_lay_39 a1 a2 a3 0 σ
def B_X7_lay_22 (a1 : Int32) (a2 : Int32) (a3 : Int32) (σ : zg_S) : Option (Int32 × zg_S) := (if a2 = 2 then zbd (f_X7_isSheet a3 σ) (fun (r117 : Int32) (σ118 : zg_S) => (if r117 = 0 then B_X7_lay_38 a1 a2 a3 σ118 else B_X7_lay_34 a1 a2 a3 σ118)) else B_X7_lay_38 a1 a2 a3 σ)
def f_X7_lay (a1 : Int32) (a2 : Int32) (a3 : Int32) (σ : zg_S) : Option (Int32 × zg_S) := (if a2 = 0 then B_X7_lay_34 a1 a2 a3 σ else (if a2 = 3 then B_X7_lay_34 a1 a2 a3 σ else (if a2 = 1 then zbd (f_X7_isStall a3 σ) (fun (r136 : Int32) (σ137 : zg_S) => (if r136 = 0 then B_X7_lay_22 a1 a2 a3 σ137 else B_X7_lay_34 a1 a2 a3 σ137)) else B_X7_lay_22 a1 a2 a3 σ)))
set_option maxHeartbeats 4000000 in
set_option maxRecDepth 100000 in
theorem c_X7_lay (l : Launch) (D : va_G) (V : zz_V) (ad : Nat → Nat) (cA : Nat → ClassId) (a1 : Int32) (a2 : Int32) (a3 : Int32)  (σ : zg_S) (r0 : Int32) (σf : zg_S) (hf : f_X7_lay a1 a2 a3 σ = some (r0, σf)) : zM_I l yX7_lay wsX7_lay 2 46 D V ML ad cA [.ref (ad 0), .int a1, .int a2, .int a3] σ r0 σf := by
  intro sz
  refine Met.ofW (cc := cX7_lay) (maxL := 7) (ret := (some .int)) (by decide) rfl ?_
  intro p e s m args below meth c s₁ B hml hv
  obtain ⟨rfl, hC⟩ := hv
  have hx := B.exec
  have hb := B.bytes
  have hr := B.returns
  have hts := atoms_spec (ws := wsX7_lay) B.pre
  have hown : s.vm.findClass RX7 = some m.cls := findClass_of_methodNamed B.named
  have hlk := B.notSynchronized
  have X : CallFix p m c cX7_lay 7 s _ wsX7_lay RX7 := ⟨hx, hb, hml, hown, hts⟩
  have Z := zz_enter hC
  generalize va_A (zg_W ML ad cA σ) sz = A at Z ⊢
  have hl := lv_entry ([.ref (ad 0), .int a1, .int a2, .int a3]) (n := 7) (Nat.le_of_ble_eq_true rfl)
  rw [lg_entry_eq]
  generalize (lg_sl ([.ref (ad 0), .int a1, .int a2, .int a3]) ++ List.replicate (7 - (lg_sl ([.ref (ad 0), .int a1, .int a2, .int a3])).length) Slot.unset).toArray = ls at hl ⊢
  have hl : lv_has ls 7 [(0, .ref (ad 0)), (1, .int a1), (2, .int a2), (3, .int a3)] := hl
  unfold f_X7_lay at hf
  have b39_ : ∀ (y0 : Int32) (σ : zg_S), B_X7_lay_39 a1 a2 a3 y0 σ = some (r0, σf) → ∀ (H : Heap) (locs : List Loc) (ls : Array Slot), zz_S D V A s (zg_W ML ad cA σ) (zg_T ML cA) H locs → lv_has ls 7 [(0, .ref (ad 0)), (1, .int a1), (2, .int a2), (3, .int a3)] → W p l e (headSpec wsX7_lay { frames := 2, cells := 0, slots := 0, locals := 46 }).room s m (List.toArray [.ref (ad 0), .int a1, .int a2, .int a3]) below meth c H locs 0 0 (MQ below (va_Qi (fun r (_ : Unit) => r = r0) (fun _ t => zz_B D A (zg_W ML ad cA σf) (zg_T ML cA) t) A) (List.toArray [.ref (ad 0), .int a1, .int a2, .int a3]) s 0 0 A) (F0 m 39 ls [.int y0]) := by
    intro y0 σ hf39_ H39_ locs39_ ls39_ Z39_ hl39_
    unfold B_X7_lay_39 at hf39_
    have b74_ : ∀ (σ : zg_S), B_X7_lay_74 a1 a2 a3  σ = some (r0, σf) → ∀ (H : Heap) (locs : List Loc) (ls : Array Slot), zz_S D V A s (zg_W ML ad cA σ) (zg_T ML cA) H locs → lv_has ls 7 [(0, .ref (ad 0)), (1, .int a1), (2, .int a2), (3, .int a3)] → W p l e (headSpec wsX7_lay { frames := 2, cells := 0, slots := 0, locals := 46 }).room s m (List.toArray [.ref (ad 0), .int a1, .int a2, .int a3]) below meth c H locs 0 0 (MQ below (va_Qi (fun r (_ : Unit) => r = r0) (fun _ t => zz_B D A (zg_W ML ad cA σf) (zg_T ML cA) t) A) (List.toArray [.ref (ad 0), .int a1, .int a2, .int a3]) s 0 0 A) (F0 m 74 ls []) := by
      intro σ hf74_ H74_ locs74_ ls74_ Z74_ hl74_
      unfold B_X7_lay_74 at hf74_
      have b109_ : ∀ (x5 : Int32) (y0 : Int32) (y1 : Int32) (σ : zg_S), B_X7_lay_109 a1 a2 a3 x5 y0 y1 σ = some (r0, σf) → ∀ (H : Heap) (locs : List Loc) (ls : Array Slot), zz_S D V A s (zg_W ML ad cA σ) (zg_T ML cA) H locs → lv_has ls 7 [(0, .ref (ad 0)), (1, .int a1), (2, .int a2), (3, .int a3), (5, .int x5)] → W p l e (headSpec wsX7_lay { frames := 2, cells := 0, slots := 0, locals := 46 }).room s m (List.toArray [.ref (ad 0), .int a1, .int a2, .int a3]) below meth c H locs 0 0 (MQ below (va_Qi (fun r (_ : Unit) => r = r0) (fun _ t => zz_B D A (zg_W ML ad cA σf) (zg_T ML cA) t) A) (List.toArray [.ref (ad 0), .int a1, .int a2, .int a3]) s 0 0 A) (F0 m 109 ls [.int y0, .int y1, .ref (ad 8)]) := by
        intro x5 y0 y1 σ hf109_ H109_ locs109_ ls109_ Z109_ hl109_
        unfold B_X7_lay_109 at hf109_
        have b129_ : ∀ (x5 : Int32) (y0 : Int32) (y1 : Int32) (σ : zg_S), B_X7_lay_129 a1 a2 a3 x5 y0 y1 σ = some (r0, σf) → ∀ (H : Heap) (locs : List Loc) (ls : Array Slot), zz_S D V A s (zg_W ML ad cA σ) (zg_T ML cA) H locs → lv_has ls 7 [(0, .ref (ad 0)), (1, .int a1), (2, .int a2), (3, .int a3), (5, .int x5)] → W p l e (headSpec wsX7_lay { frames := 2, cells := 0, slots := 0, locals := 46 }).room s m (List.toArray [.ref (ad 0), .int a1, .int a2, .int a3]) below meth c H locs 0 0 (MQ below (va_Qi (fun r (_ : Unit) => r = r0) (fun _ t => zz_B D A (zg_W ML ad cA σf) (zg_T ML cA) t) A) (List.toArray [.ref (ad 0), .int a1, .int a2, .int a3]) s 0 0 A) (F0 m 129 ls [.int y0, .int y1, .ref (ad 9)]) := by
          intro x5 y0 y1 σ hf129_ H129_ locs129_ ls129_ Z129_ hl129_
          unfold B_X7_lay_129 at hf129_
          have b150_ : ∀ (k150_ : Nat) (x5 : Int32) (x6 : Int32) (σ : zg_S), L_X7_lay_150 a1 a2 a3 k150_ x5 x6 σ = some (r0, σf) → ∀ (H : Heap) (locs : List Loc) (ls : Array Slot), zz_S D V A s (zg_W ML ad cA σ) (zg_T ML cA) H locs → lv_has ls 7 [(0, .ref (ad 0)), (1, .int a1), (3, .int a3), (5, .int x5), (6, .int x6)] → W p l e (headSpec wsX7_lay { frames := 2, cells := 0, slots := 0, locals := 46 }).room s m (List.toArray [.ref (ad 0), .int a1, .int a2, .int a3]) below meth c H locs 0 0 (MQ below (va_Qi (fun r (_ : Unit) => r = r0) (fun _ t => zz_B D A (zg_W ML ad cA σf) (zg_T ML cA) t) A) (List.toArray [.ref (ad 0), .int a1, .int a2, .int a3]) s 0 0 A) (F0 m 150 ls []) := by
            intro k150_
            induction k150_ with
            | zero =>
                intro x5 x6 σ hf150_ H150_ locs150_ ls150_ Z150_ hl150_
                exact zNone hf150_
            | succ k150_ ih150_ =>
                intro x5 x6 σ hf150_ H150_ locs150_ ls150_ Z150_ hl150_
                replace hf150_ : B_X7_lay_150 a1 a2 a3 (L_X7_lay_150 a1 a2 a3 k150_) x5 x6 σ = some (r0, σf) := hf150_
                unfold B_X7_lay_150 at hf150_
                refine lv_iload hx hb dX7_lay_150 (lv_at hl150_ 4 rfl) ?_
                refine lv_bipush (v := 24) hx hb dX7_lay_152 (by decide) ?_
                refine lv_icmp_ge (tgt := 187) hx hb dX7_lay_154 (by decide) (fun b1 => ?_) (fun b1 => ?_)
                · have hf2 := zYes hf150_ b1
                  clear hf150_
                  refine lv_iload hx hb dX7_lay_187 (lv_at hl150_ 3 rfl) ?_
                  exact zy_iret X hr hlk Z150_ (zEnd hf2) dX7_lay_189
                · have hf3 := zNot hf150_ b1
                  clear hf150_
                  refine lv_aload_n hx hb dX7_lay_157 rfl (lv_at hl150_ 0 rfl) ?_
                  refine zy_get (v := .ref (ad 11)) X Z150_ mL_ok mk_0 rfl rfl (fun w h => List.mem_cons_of_mem _ (List.mem_append_right _ h)) 11 rfl (zz_m 9 rfl) rfl dX7_lay_158 ?_
                  refine lv_bipush (v := 24) hx hb dX7_lay_161 (by decide) ?_
                  refine lv_iload_n hx hb dX7_lay_163 rfl (lv_at hl150_ 1 rfl) ?_
                  refine lv_imul hx hb dX7_lay_164 ?_
                  refine lv_iload hx hb dX7_lay_165 (lv_at hl150_ 4 rfl) ?_
                  refine lv_iadd hx hb dX7_lay_167 ?_
                  refine lv_aload_n hx hb dX7_lay_168 rfl (lv_at hl150_ 0 rfl) ?_
                  refine zy_get (v := .ref (ad 6)) X Z150_ mL_ok mk_0 rfl rfl (fun w h => List.mem_cons_of_mem _ (List.mem_append_right _ h)) 6 rfl (zz_m 10 rfl) rfl dX7_lay_169 ?_
                  refine lv_bipush (v := 24) hx hb dX7_lay_172 (by decide) ?_
                  refine lv_iload_n hx hb dX7_lay_174 rfl (lv_at hl150_ 2 rfl) ?_
                  refine lv_imul hx hb dX7_lay_175 ?_
                  refine lv_iload hx hb dX7_lay_176 (lv_at hl150_ 4 rfl) ?_
                  refine lv_iadd hx hb dX7_lay_178 ?_
                  obtain ⟨⟨i4, j5⟩, hf6⟩ := zG hf3
                  clear hf3
                  refine zy_ild X Z150_ mL_ok mk_6 ml_6 i4 dX7_lay_179 ?_
                  obtain ⟨y7, ey8, hf9⟩ := zLet hf6
                  clear hf6
                  refine zz_v (v := y7) ey8.symm ?_
                  clear ey8
                  obtain ⟨⟨i10, j11⟩, hf12⟩ := zG hf9
                  clear hf9
                  obtain ⟨σ13, es14, hf15⟩ := zLet hf12
                  clear hf12
                  refine zy_ist (σ' := σ13) X Z150_ mL_ok mk_11 ml_11 i10 es14 dX7_lay_180 (fun H16 lo17 Z18 => ?_)
                  clear Z150_ es14
                  refine lv_iinc (v := (x6 + 1)) (lv' := [(6, .int (x6 + 1)), (0, .ref (ad 0)), (1, .int a1), (3, .int a3), (5, .int x5)]) hx hb dX7_lay_181 hl150_ (k := 4) rfl rfl (by decide) rfl (fun ls20 hl19 => ?_)
                  clear hl150_
                  refine lv_goto (tgt := 150) hx hb dX7_lay_184 (by decide) ?_
                  exact ih150_ x5 (x6 + 1) σ13 hf15 _ _ _ Z18 (lv_sub hl19 [1, 2, 3, 4, 0] rfl)
          obtain ⟨⟨i21, j22⟩, hf23⟩ := zG hf129_
          clear hf129_
          obtain ⟨σ24, es25, hf26⟩ := zLet hf23
          clear hf23
          refine zy_ist (σ' := σ24) X Z129_ mL_ok mk_9 ml_9 i21 es25 dX7_lay_129 (fun H27 lo28 Z29 => ?_)
          clear Z129_ es25
          refine lv_iload_n hx hb dX7_lay_130 rfl (lv_at hl129_ 2 rfl) ?_
          refine lv_iconst (v := 2) hx hb dX7_lay_131 (by decide) ?_
          refine lv_icmp_ne (tgt := 187) hx hb dX7_lay_132 (by decide) (fun b30 => ?_) (fun b30 => ?_)
          · have hf31 := zNot hf26 b30
            clear hf26
            refine lv_iload hx hb dX7_lay_187 (lv_at hl129_ 4 rfl) ?_
            exact zy_iret X hr hlk Z29 (zEnd hf31) dX7_lay_189
          · have hf32 := zYes hf26 b30
            clear hf26
            refine lv_aload_n hx hb dX7_lay_135 rfl (lv_at hl129_ 0 rfl) ?_
            refine zy_get (v := .ref (ad 10)) X Z29 mL_ok mk_0 rfl rfl (fun w h => List.mem_cons_of_mem _ (List.mem_append_right _ h)) 10 rfl (zz_m 7 rfl) rfl dX7_lay_136 ?_
            refine lv_iload_n hx hb dX7_lay_139 rfl (lv_at hl129_ 1 rfl) ?_
            refine lv_aload_n hx hb dX7_lay_140 rfl (lv_at hl129_ 0 rfl) ?_
            refine zy_get (v := .ref (ad 5)) X Z29 mL_ok mk_0 rfl rfl (fun w h => List.mem_cons_of_mem _ (List.mem_append_right _ h)) 5 rfl (zz_m 8 rfl) rfl dX7_lay_141 ?_
            refine lv_iload_n hx hb dX7_lay_144 rfl (lv_at hl129_ 3 rfl) ?_
            obtain ⟨⟨i33, j34⟩, hf35⟩ := zG hf32
            clear hf32
            refine zy_ild X Z29 mL_ok mk_5 ml_5 i33 dX7_lay_145 ?_
            obtain ⟨y36, ey37, hf38⟩ := zLet hf35
            clear hf35
            refine zz_v (v := y36) ey37.symm ?_
            clear ey37
            obtain ⟨⟨i39, j40⟩, hf41⟩ := zG hf38
            clear hf38
            obtain ⟨σ42, es43, hf44⟩ := zLet hf41
            clear hf41
            refine zy_ist (σ' := σ42) X Z29 mL_ok mk_10 ml_10 i39 es43 dX7_lay_146 (fun H45 lo46 Z47 => ?_)
            clear Z29 es43
            refine lv_iconst (v := 0) hx hb dX7_lay_147 (by decide) ?_
            refine lv_istore (lv' := [(6, .int 0), (0, .ref (ad 0)), (1, .int a1), (2, .int a2), (3, .int a3), (5, .int x5)]) hx hb dX7_lay_148 hl129_ (by decide) rfl (fun ls49 hl48 => ?_)
            clear hl129_
            exact b150_ zfu x5 0 σ42 hf44 _ _ _ Z47 (lv_sub hl48 [1, 2, 4, 5, 0] rfl)
        obtain ⟨⟨i50, j51⟩, hf52⟩ := zG hf109_
        clear hf109_
        obtain ⟨σ53, es54, hf55⟩ := zLet hf52
        clear hf52
        refine zy_ist (σ' := σ53) X Z109_ mL_ok mk_8 ml_8 i50 es54 dX7_lay_109 (fun H56 lo57 Z58 => ?_)
        clear Z109_ es54
        refine lv_aload_n hx hb dX7_lay_110 rfl (lv_at hl109_ 0 rfl) ?_
        refine zy_get (v := .ref (ad 9)) X Z58 mL_ok mk_0 rfl rfl (fun w h => List.mem_cons_of_mem _ (List.mem_append_right _ h)) 9 rfl (zz_m 6 rfl) rfl dX7_lay_111 ?_
        refine lv_iload_n hx hb dX7_lay_114 rfl (lv_at hl109_ 1 rfl) ?_
        refine lv_iload_n hx hb dX7_lay_115 rfl (lv_at hl109_ 2 rfl) ?_
        refine lv_iconst (v := 1) hx hb dX7_lay_116 (by decide) ?_
        refine lv_icmp_ne (tgt := 128) hx hb dX7_lay_117 (by decide) (fun b59 => ?_) (fun b59 => ?_)
        · have hf60 := zNot hf55 b59
          clear hf55
          refine lv_iconst (v := 0) hx hb dX7_lay_128 (by decide) ?_
          exact b129_ x5 0 a1 σ53 hf60 _ _ _ Z58 (lv_sub hl109_ [0, 1, 2, 3, 4] rfl)
        · have hf61 := zYes hf55 b59
          clear hf55
          refine lv_aload_n hx hb dX7_lay_120 rfl (lv_at hl109_ 0 rfl) ?_
          refine lv_iload_n hx hb dX7_lay_121 rfl (lv_at hl109_ 3 rfl) ?_
          obtain ⟨r62, σ63, hc64, hf65⟩ := zBd hf61
          clear hf61
          refine zy_ci (r0 := r62) (WS1 := zg_W ML ad cA σ63) (TYS1 := zg_T ML cA) Z58 (va_runV (As := [.int a3]) (rest := [.int a1, .ref (ad 9)]) X (c_X7_worth l D V ad cA a3 σ53 r62 σ63 hc64 H56.size) (cwV 1 hts gX7_lay_X7_worth rfl rfl rfl ⟨rfl, zh_X7_worth⟩ ⟨Nat.le_of_ble_eq_true rfl, Nat.le_of_ble_eq_true rfl⟩) (zy_pV (ci := 7) Z58 mL_ok mk_0 rfl rfl) rfl rfl hl109_.1 rfl (lv_room (Nat.le_of_ble_eq_true rfl)) dX7_lay_122 ⟨Nat.le_of_ble_eq_true rfl, Nat.le_of_ble_eq_true rfl⟩) (fun H66 lo67 Z68 => ?_)
          clear Z58 hc64
          refine lv_goto (tgt := 129) hx hb dX7_lay_125 (by decide) ?_
          exact b129_ x5 r62 a1 σ63 hf65 _ _ _ Z68 (lv_sub hl109_ [0, 1, 2, 3, 4] rfl)
      refine lv_aload_n hx hb dX7_lay_74 rfl (lv_at hl74_ 0 rfl) ?_
      refine zy_get (v := .ref (ad 7)) X Z74_ mL_ok mk_0 rfl rfl (fun w h => List.mem_cons_of_mem _ (List.mem_append_right _ h)) 7 rfl (zz_m 4 rfl) rfl dX7_lay_75 ?_
      refine lv_iload_n hx hb dX7_lay_78 rfl (lv_at hl74_ 1 rfl) ?_
      obtain ⟨⟨i69, j70⟩, hf71⟩ := zG hf74_
      clear hf74_
      refine zy_ild X Z74_ mL_ok mk_7 ml_7 i69 dX7_lay_79 ?_
      refine lv_istore (lv' := [(5, .int (σ 7 (Int32.toNatClampNeg a1))), (0, .ref (ad 0)), (1, .int a1), (2, .int a2), (3, .int a3)]) hx hb dX7_lay_80 hl74_ (by decide) rfl (fun ls73 hl72 => ?_)
      clear hl74_
      refine lv_aload_n hx hb dX7_lay_82 rfl (lv_at hl72 1 rfl) ?_
      refine zy_get (v := .ref (ad 7)) X Z74_ mL_ok mk_0 rfl rfl (fun w h => List.mem_cons_of_mem _ (List.mem_append_right _ h)) 7 rfl (zz_m 4 rfl) rfl dX7_lay_83 ?_
      refine lv_iload_n hx hb dX7_lay_86 rfl (lv_at hl72 2 rfl) ?_
      refine lv_iload_n hx hb dX7_lay_87 rfl (lv_at hl72 3 rfl) ?_
      obtain ⟨σ74, es75, hf76⟩ := zLet hf71
      clear hf71
      refine zy_ist (σ' := σ74) X Z74_ mL_ok mk_7 ml_7 i69 es75 dX7_lay_88 (fun H77 lo78 Z79 => ?_)
      clear Z74_ es75
      refine lv_aload_n hx hb dX7_lay_89 rfl (lv_at hl72 1 rfl) ?_
      refine zy_get (v := .ref (ad 8)) X Z79 mL_ok mk_0 rfl rfl (fun w h => List.mem_cons_of_mem _ (List.mem_append_right _ h)) 8 rfl (zz_m 5 rfl) rfl dX7_lay_90 ?_
      refine lv_iload_n hx hb dX7_lay_93 rfl (lv_at hl72 2 rfl) ?_
      refine lv_iload_n hx hb dX7_lay_94 rfl (lv_at hl72 3 rfl) ?_
      refine lv_iconst (v := 1) hx hb dX7_lay_95 (by decide) ?_
      refine lv_icmp_ne (tgt := 108) hx hb dX7_lay_96 (by decide) (fun b80 => ?_) (fun b80 => ?_)
      · have hf81 := zNot hf76 b80
        clear hf76
        refine lv_iload_n hx hb dX7_lay_108 rfl (lv_at hl72 4 rfl) ?_
        exact b109_ (σ 7 (Int32.toNatClampNeg a1)) a3 a1 σ74 hf81 _ _ _ Z79 (lv_sub hl72 [1, 2, 3, 4, 0] rfl)
      · have hf82 := zYes hf76 b80
        clear hf76
        refine lv_aload_n hx hb dX7_lay_99 rfl (lv_at hl72 1 rfl) ?_
        refine lv_iload_n hx hb dX7_lay_100 rfl (lv_at hl72 4 rfl) ?_
        refine lv_iconst (v := 0) hx hb dX7_lay_101 (by decide) ?_
        obtain ⟨r83, σ84, hc85, hf86⟩ := zBd hf82
        clear hf82
        refine zy_ci (r0 := r83) (WS1 := zg_W ML ad cA σ84) (TYS1 := zg_T ML cA) Z79 (va_runV (As := [.int a3, .int 0]) (rest := [.int a1, .ref (ad 8)]) X (c_X7_of l D V ad cA a3 0 σ74 r83 σ84 hc85 H77.size) (cwV 2 hts gX7_lay_X7_of rfl rfl rfl ⟨rfl, zh_X7_of⟩ ⟨Nat.le_of_ble_eq_true rfl, Nat.le_of_ble_eq_true rfl⟩) (zy_pV (ci := 7) Z79 mL_ok mk_0 rfl rfl) rfl rfl hl72.1 rfl (lv_room (Nat.le_of_ble_eq_true rfl)) dX7_lay_102 ⟨Nat.le_of_ble_eq_true rfl, Nat.le_of_ble_eq_true rfl⟩) (fun H87 lo88 Z89 => ?_)
        clear Z79 hc85
        refine lv_goto (tgt := 109) hx hb dX7_lay_105 (by decide) ?_
        exact b109_ (σ 7 (Int32.toNatClampNeg a1)) r83 a1 σ84 hf86 _ _ _ Z89 (lv_sub hl72 [1, 2, 3, 4, 0] rfl)
    refine lv_istore (lv' := [(4, .int y0), (0, .ref (ad 0)), (1, .int a1), (2, .int a2), (3, .int a3)]) hx hb dX7_lay_39 hl39_ (by decide) rfl (fun ls91 hl90 => ?_)
    clear hl39_
    refine lv_iload_n hx hb dX7_lay_41 rfl (lv_at hl90 2 rfl) ?_
    obtain ⟨r92, σ93, hc94, hf95⟩ := zBd hf39_
    clear hf39_
    refine zy_ci (r0 := r92) (WS1 := zg_W ML ad cA σ93) (TYS1 := zg_T ML cA) Z39_ (va_runS (As := [.int a1]) (rest := []) X (c_X7_isSlot l D V ad cA a1 σ r92 σ93 hc94 H39_.size) (va_cwS 1 hts gX7_lay_X7_isSlot rfl rfl rfl zh_X7_isSlot ⟨Nat.le_of_ble_eq_true rfl, Nat.le_of_ble_eq_true rfl⟩) (zz_pS Z39_) rfl rfl hl90.1 rfl (lv_room (Nat.le_of_ble_eq_true rfl)) dX7_lay_42 ⟨Nat.le_of_ble_eq_true rfl, Nat.le_of_ble_eq_true rfl⟩) (fun H96 lo97 Z98 => ?_)
    clear Z39_ hc94
    refine lv_if_eq (tgt := 53) hx hb dX7_lay_45 (by decide) (fun b99 => ?_) (fun b99 => ?_)
    · have hf100 := zYes hf95 b99
      clear hf95
      refine lv_ldc (v := (-1000000001)) hx hb hown (hts _ (zz_m 1 rfl)) dX7_lay_53 ?_
      exact zy_iret X hr hlk Z98 (zEnd hf100) dX7_lay_55
    · have hf101 := zNot hf95 b99
      clear hf95
      refine lv_iload hx hb dX7_lay_48 (lv_at hl90 0 rfl) ?_
      refine lv_if_ne (tgt := 56) hx hb dX7_lay_50 (by decide) (fun b102 => ?_) (fun b102 => ?_)
      · have hf103 := zNot hf101 b102
        clear hf101
        refine lv_iload_n hx hb dX7_lay_56 rfl (lv_at hl90 3 rfl) ?_
        refine lv_iconst (v := 2) hx hb dX7_lay_57 (by decide) ?_
        refine lv_icmp_ne (tgt := 74) hx hb dX7_lay_58 (by decide) (fun b104 => ?_) (fun b104 => ?_)
        · have hf105 := zNot hf103 b104
          clear hf103
          exact b74_ σ93 hf105 _ _ _ Z98 (lv_sub hl90 [1, 2, 3, 4] rfl)
        · have hf106 := zYes hf103 b104
          clear hf103
          refine lv_aload_n hx hb dX7_lay_61 rfl (lv_at hl90 1 rfl) ?_
          refine zy_get (v := .ref (ad 4)) X Z98 mL_ok mk_0 rfl rfl (fun w h => List.mem_cons_of_mem _ (List.mem_append_right _ h)) 4 rfl (zz_m 2 rfl) rfl dX7_lay_62 ?_
          refine lv_iload_n hx hb dX7_lay_65 rfl (lv_at hl90 4 rfl) ?_
          obtain ⟨⟨i107, j108⟩, hf109⟩ := zG hf106
          clear hf106
          refine zy_ild X Z98 mL_ok mk_4 ml_4 i107 dX7_lay_66 ?_
          refine lv_if_ge (tgt := 74) hx hb dX7_lay_67 (by decide) (fun b110 => ?_) (fun b110 => ?_)
          · have hf111 := zYes hf109 b110
            clear hf109
            exact b74_ σ93 hf111 _ _ _ Z98 (lv_sub hl90 [1, 2, 3, 4] rfl)
          · have hf112 := zNot hf109 b110
            clear hf109
            refine lv_ldcw (v := (-1000000011)) hx hb hown (hts _ (zz_m 3 rfl)) dX7_lay_70 ?_
            exact zy_iret X hr hlk Z98 (zEnd hf112) dX7_lay_73
      · have hf113 := zYes hf101 b102
        clear hf101
        refine lv_ldc (v := (-1000000001)) hx hb hown (hts _ (zz_m 1 rfl)) dX7_lay_53 ?_
        exact zy_iret X hr hlk Z98 (zEnd hf113) dX7_lay_55
  have b34_ : ∀ (σ : zg_S), B_X7_lay_34 a1 a2 a3  σ = some (r0, σf) → ∀ (H : Heap) (locs : List Loc) (ls : Array Slot), zz_S D V A s (zg_W ML ad cA σ) (zg_T ML cA) H locs → lv_has ls 7 [(0, .ref (ad 0)), (1, .int a1), (2, .int a2), (3, .int a3)] → W p l e (headSpec wsX7_lay { frames := 2, cells := 0, slots := 0, locals := 46 }).room s m (List.toArray [.ref (ad 0), .int a1, .int a2, .int a3]) below meth c H locs 0 0 (MQ below (va_Qi (fun r (_ : Unit) => r = r0) (fun _ t => zz_B D A (zg_W ML ad cA σf) (zg_T ML cA) t) A) (List.toArray [.ref (ad 0), .int a1, .int a2, .int a3]) s 0 0 A) (F0 m 34 ls []) := by
    intro σ hf34_ H34_ locs34_ ls34_ Z34_ hl34_
    unfold B_X7_lay_34 at hf34_
    refine lv_iconst (v := 1) hx hb dX7_lay_34 (by decide) ?_
    refine lv_goto (tgt := 39) hx hb dX7_lay_35 (by decide) ?_
    exact b39_ 1 σ hf34_ _ _ _ Z34_ (lv_sub hl34_ [0, 1, 2, 3] rfl)
  have b22_ : ∀ (σ : zg_S), B_X7_lay_22 a1 a2 a3  σ = some (r0, σf) → ∀ (H : Heap) (locs : List Loc) (ls : Array Slot), zz_S D V A s (zg_W ML ad cA σ) (zg_T ML cA) H locs → lv_has ls 7 [(0, .ref (ad 0)), (1, .int a1), (2, .int a2), (3, .int a3)] → W p l e (headSpec wsX7_lay { frames := 2, cells := 0, slots := 0, locals := 46 }).room s m (List.toArray [.ref (ad 0), .int a1, .int a2, .int a3]) below meth c H locs 0 0 (MQ below (va_Qi (fun r (_ : Unit) => r = r0) (fun _ t => zz_B D A (zg_W ML ad cA σf) (zg_T ML cA) t) A) (List.toArray [.ref (ad 0), .int a1, .int a2, .int a3]) s 0 0 A) (F0 m 22 ls []) := by
    intro σ hf22_ H22_ locs22_ ls22_ Z22_ hl22_
    unfold B_X7_lay_22 at hf22_
    have b38_ : ∀ (σ : zg_S), B_X7_lay_38 a1 a2 a3  σ = some (r0, σf) → ∀ (H : Heap) (locs : List Loc) (ls : Array Slot), zz_S D V A s (zg_W ML ad cA σ) (zg_T ML cA) H locs → lv_has ls 7 [(0, .ref (ad 0)), (1, .int a1), (2, .int a2), (3, .int a3)] → W p l e (headSpec wsX7_lay { frames := 2, cells := 0, slots := 0, locals := 46 }).room s m (List.toArray [.ref (ad 0), .int a1, .int a2, .int a3]) below meth c H locs 0 0 (MQ below (va_Qi (fun r (_ : Unit) => r = r0) (fun _ t => zz_B D A (zg_W ML ad cA σf) (zg_T ML cA) t) A) (List.toArray [.ref (ad 0), .int a1, .int a2, .int a3]) s 0 0 A) (F0 m 38 ls []) := by
      intro σ hf38_ H38_ locs38_ ls38_ Z38_ hl38_
      unfold B_X7_lay_38 at hf38_
      refine lv_iconst (v := 0) hx hb dX7_lay_38 (by decide) ?_
      exact b39_ 0 σ hf38_ _ _ _ Z38_ (lv_sub hl38_ [0, 1, 2, 3] rfl)
    refine lv_iload_n hx hb dX7_lay_22 rfl (lv_at hl22_ 2 rfl) ?_
    refine lv_iconst (v := 2) hx hb dX7_lay_23 (by decide) ?_
    refine lv_icmp_ne (tgt := 38) hx hb dX7_lay_24 (by decide) (fun b114 => ?_) (fun b114 => ?_)
    · have hf115 := zNot hf22_ b114
      clear hf22_
      exact b38_ σ hf115 _ _ _ Z22_ (lv_sub hl22_ [0, 1, 2, 3] rfl)
    · have hf116 := zYes hf22_ b114
      clear hf22_
      refine lv_iload_n hx hb dX7_lay_27 rfl (lv_at hl22_ 3 rfl) ?_
      obtain ⟨r117, σ118, hc119, hf120⟩ := zBd hf116
      clear hf116
      refine zy_ci (r0 := r117) (WS1 := zg_W ML ad cA σ118) (TYS1 := zg_T ML cA) Z22_ (va_runS (As := [.int a3]) (rest := []) X (c_X7_isSheet l D V ad cA a3 σ r117 σ118 hc119 H22_.size) (va_cwS 1 hts gX7_lay_X7_isSheet rfl rfl rfl zh_X7_isSheet ⟨Nat.le_of_ble_eq_true rfl, Nat.le_of_ble_eq_true rfl⟩) (zz_pS Z22_) rfl rfl hl22_.1 rfl (lv_room (Nat.le_of_ble_eq_true rfl)) dX7_lay_28 ⟨Nat.le_of_ble_eq_true rfl, Nat.le_of_ble_eq_true rfl⟩) (fun H121 lo122 Z123 => ?_)
      clear Z22_ hc119
      refine lv_if_eq (tgt := 38) hx hb dX7_lay_31 (by decide) (fun b124 => ?_) (fun b124 => ?_)
      · have hf125 := zYes hf120 b124
        clear hf120
        exact b38_ σ118 hf125 _ _ _ Z123 (lv_sub hl22_ [0, 1, 2, 3] rfl)
      · have hf126 := zNot hf120 b124
        clear hf120
        exact b34_ σ118 hf126 _ _ _ Z123 (lv_sub hl22_ [0, 1, 2, 3] rfl)
  refine lv_iload_n hx hb dX7_lay_0 rfl (lv_at hl 2 rfl) ?_
  refine lv_if_eq (tgt := 34) hx hb dX7_lay_1 (by decide) (fun b127 => ?_) (fun b127 => ?_)
  · have hf128 := zYes hf b127
    clear hf
    exact b34_ σ hf128 _ _ _ Z (lv_sub hl [0, 1, 2, 3] rfl)
  · have hf129 := zNot hf b127
    clear hf
    refine lv_iload_n hx hb dX7_lay_4 rfl (lv_at hl 2 rfl) ?_
    refine lv_iconst (v := 3) hx hb dX7_lay_5 (by decide) ?_
    refine lv_icmp_eq (tgt := 34) hx hb dX7_lay_6 (by decide) (fun b130 => ?_) (fun b130 => ?_)
    · have hf131 := zYes hf129 b130
      clear hf129
      exact b34_ σ hf131 _ _ _ Z (lv_sub hl [0, 1, 2, 3] rfl)
    · have hf132 := zNot hf129 b130
      clear hf129
      refine lv_iload_n hx hb dX7_lay_9 rfl (lv_at hl 2 rfl) ?_
      refine lv_iconst (v := 1) hx hb dX7_lay_10 (by decide) ?_
      refine lv_icmp_ne (tgt := 22) hx hb dX7_lay_11 (by decide) (fun b133 => ?_) (fun b133 => ?_)
      · have hf134 := zNot hf132 b133
        clear hf132
        exact b22_ σ hf134 _ _ _ Z (lv_sub hl [0, 1, 2, 3] rfl)
      · have hf135 := zYes hf132 b133
        clear hf132
        refine lv_aload_n hx hb dX7_lay_14 rfl (lv_at hl 0 rfl) ?_
        refine lv_iload_n hx hb dX7_lay_15 rfl (lv_at hl 3 rfl) ?_
        obtain ⟨r136, σ137, hc138, hf139⟩ := zBd hf135
        clear hf135
        refine zy_ci (r0 := r136) (WS1 := zg_W ML ad cA σ137) (TYS1 := zg_T ML cA) Z (va_runV (As := [.int a3]) (rest := []) X (c_X7_isStall l D V ad cA a3 σ r136 σ137 hc138 s.heap.size) (cwV 1 hts gX7_lay_X7_isStall rfl rfl rfl ⟨rfl, zh_X7_isStall⟩ ⟨Nat.le_of_ble_eq_true rfl, Nat.le_of_ble_eq_true rfl⟩) (zy_pV (ci := 7) Z mL_ok mk_0 rfl rfl) rfl rfl hl.1 rfl (lv_room (Nat.le_of_ble_eq_true rfl)) dX7_lay_16 ⟨Nat.le_of_ble_eq_true rfl, Nat.le_of_ble_eq_true rfl⟩) (fun H140 lo141 Z142 => ?_)
        clear Z hc138
        refine lv_if_ne (tgt := 34) hx hb dX7_lay_19 (by decide) (fun b143 => ?_) (fun b143 => ?_)
        · have hf144 := zNot hf139 b143
          clear hf139
          exact b34_ σ137 hf144 _ _ _ Z142 (lv_sub hl [0, 1, 2, 3] rfl)
        · have hf145 := zYes hf139 b143
          clear hf139
          exact b22_ σ137 hf145 _ _ _ Z142 (lv_sub hl [0, 1, 2, 3] rfl)
