set_option maxHeartbeats 4000000 in
set_option maxRecDepth 100000 in
theorem law_case0 {p : Program} {l : Launch} {e : Env} {s : State} {m : MethodId} {below : List Frame} {meth : Method} {c : Code} {b L : Nat} {xs : Nat → Int32} (hL : L ≤ 3072) (C0 : lw_At p s m meth c b L xs) (D : va_G) (V : zz_V) (A : Nat → Prop) (hAq : ∀ q, A q → s.heap.size ≤ q) (ad am : Nat → Nat) (cA cM : Nat → ClassId) (σ τ : zg_S) (hR : lw_R σ τ) (n : Nat) (hn : n + 6 ≤ L) (kk : ∀ (σ τ : zg_S), lw_R σ τ → ∀ (H : Heap) (locs : List Loc) (ls : Array Slot), zz_S D V A s (zg_W XL ad cA σ ++ zg_W ML am cM τ) (zg_T XL cA ++ zg_T ML cM) H locs → lv_has ls 4 [(3, .int (nI n)), (2, .ref (am 0)), (1, .ref (ad 0)), (0, .ref b)] → W p l e room_1 s m #[Value.ref b] below meth c H locs 208 13935 (lw_Z below #[Value.ref b] s) (F0 m 1381 ls [])) {H : Heap} {locs : List Loc} {ls : Array Slot} (Z : zz_S D V A s (zg_W XL ad cA σ ++ zg_W ML am cM τ) (zg_T XL cA ++ zg_T ML cM) H locs) (hl : lv_has ls 4 [(3, .int (nI n)), (2, .ref (am 0)), (1, .ref (ad 0)), (0, .ref b)]) : W p l e room_1 s m #[Value.ref b] below meth c H locs 208 13935 (lw_Z below #[Value.ref b] s) (F0 m 204 ls []) := by
  obtain ⟨hx, hb, hr, hml, hown, hts, hX, hbl, hlocks, hgv⟩ := id C0
  have hts := fun w h => hts w (wsL_law_in w h)
  have X : CallFix p m c cL_law 4 s #[Value.ref b] wsL_law RL := ⟨hx, hb, hml, hown, hts⟩
  have hbA : ¬ A b := fun h => absurd (hAq b h) (Nat.not_le.mpr hbl)
  refine lv_aload_n hx hb dL_law_204 rfl (lv_at hl 2 rfl) ?_
  refine lv_aload_n hx hb dL_law_205 rfl (lv_at hl 3 rfl) ?_
  refine lv_iload_n hx hb dL_law_206 rfl (lv_at hl 0 rfl) ?_
  refine lv_iconst (v := 1) hx hb dL_law_207 (by decide) ?_
  refine lv_iadd hx hb dL_law_208 ?_
  refine zz_v (v := nI (n + 1)) (lw_add n 1) ?_
  refine va_sld hx hb hX hbl hbA Z.2.2.2.1 (vp_in_nI (by omega) (by omega)) dL_law_209 ?_
  refine zz_v (v := xs (n + 1)) (by rw [nI_clamp (by omega)]) ?_
  refine lv_aload_n hx hb dL_law_210 rfl (lv_at hl 3 rfl) ?_
  refine lv_iload_n hx hb dL_law_211 rfl (lv_at hl 0 rfl) ?_
  refine lv_iconst (v := 2) hx hb dL_law_212 (by decide) ?_
  refine lv_iadd hx hb dL_law_213 ?_
  refine zz_v (v := nI (n + 2)) (lw_add n 2) ?_
  refine va_sld hx hb hX hbl hbA Z.2.2.2.1 (vp_in_nI (by omega) (by omega)) dL_law_214 ?_
  refine zz_v (v := xs (n + 2)) (by rw [nI_clamp (by omega)]) ?_
  refine lv_aload_n hx hb dL_law_215 rfl (lv_at hl 3 rfl) ?_
  refine lv_iload_n hx hb dL_law_216 rfl (lv_at hl 0 rfl) ?_
  refine lv_iconst (v := 3) hx hb dL_law_217 (by decide) ?_
  refine lv_iadd hx hb dL_law_218 ?_
  refine zz_v (v := nI (n + 3)) (lw_add n 3) ?_
  refine va_sld hx hb hX hbl hbA Z.2.2.2.1 (vp_in_nI (by omega) (by omega)) dL_law_219 ?_
  refine zz_v (v := xs (n + 3)) (by rw [nI_clamp (by omega)]) ?_
  obtain ⟨r1, σ1, r2, τ1, e1, e2, hR1, hq⟩ := st_stall hR (xs (n + 1)) (xs (n + 2)) (xs (n + 3))
  refine zy_cf (WA := zg_W XL ad cA σ) (WB := zg_W ML am cM τ) (WA1 := zg_W XL ad cA σ1) (TA := zg_T XL cA) (TB := zg_T ML cM) (TA1 := zg_T XL cA) (r0 := r1) Z (fun Zc => va_runV (As := [.int (xs (n + 1)), .int (xs (n + 2)), .int (xs (n + 3))]) (rest := []) X (c_X6_stall l D V ad cA (xs (n + 1)) (xs (n + 2)) (xs (n + 3)) σ r1 σ1 e1 H.size) (cwV 3 hts gL_law_X6_stall rfl rfl rfl ⟨rfl, zh_X6_stall⟩ ⟨Nat.le_of_ble_eq_true rfl, Nat.le_of_ble_eq_true rfl⟩) (zy_pV (ci := 6) Zc xL_ok xk_0 rfl rfl) rfl rfl hl.1 rfl (lv_room (Nat.le_of_ble_eq_true rfl)) dL_law_220 ⟨Nat.le_of_ble_eq_true rfl, Nat.le_of_ble_eq_true rfl⟩) (fun H2 locs Z1 => ?_)
  clear Z
  refine lv_pop hx hb dL_law_223 rfl ?_
  refine lv_aload_n hx hb dL_law_224 rfl (lv_at hl 1 rfl) ?_
  refine lv_aload_n hx hb dL_law_225 rfl (lv_at hl 3 rfl) ?_
  refine lv_iload_n hx hb dL_law_226 rfl (lv_at hl 0 rfl) ?_
  refine lv_iconst (v := 1) hx hb dL_law_227 (by decide) ?_
  refine lv_iadd hx hb dL_law_228 ?_
  refine zz_v (v := nI (n + 1)) (lw_add n 1) ?_
  refine va_sld hx hb hX hbl hbA Z1.2.2.2.1 (vp_in_nI (by omega) (by omega)) dL_law_229 ?_
  refine zz_v (v := xs (n + 1)) (by rw [nI_clamp (by omega)]) ?_
  refine lv_aload_n hx hb dL_law_230 rfl (lv_at hl 3 rfl) ?_
  refine lv_iload_n hx hb dL_law_231 rfl (lv_at hl 0 rfl) ?_
  refine lv_iconst (v := 2) hx hb dL_law_232 (by decide) ?_
  refine lv_iadd hx hb dL_law_233 ?_
  refine zz_v (v := nI (n + 2)) (lw_add n 2) ?_
  refine va_sld hx hb hX hbl hbA Z1.2.2.2.1 (vp_in_nI (by omega) (by omega)) dL_law_234 ?_
  refine zz_v (v := xs (n + 2)) (by rw [nI_clamp (by omega)]) ?_
  refine lv_aload_n hx hb dL_law_235 rfl (lv_at hl 3 rfl) ?_
  refine lv_iload_n hx hb dL_law_236 rfl (lv_at hl 0 rfl) ?_
  refine lv_iconst (v := 3) hx hb dL_law_237 (by decide) ?_
  refine lv_iadd hx hb dL_law_238 ?_
  refine zz_v (v := nI (n + 3)) (lw_add n 3) ?_
  refine va_sld hx hb hX hbl hbA Z1.2.2.2.1 (vp_in_nI (by omega) (by omega)) dL_law_239 ?_
  refine zz_v (v := xs (n + 3)) (by rw [nI_clamp (by omega)]) ?_
  refine zy_cf (WA := zg_W ML am cM τ) (WB := zg_W XL ad cA σ1) (WA1 := zg_W ML am cM τ1) (TA := zg_T ML cM) (TB := zg_T XL cA) (TA1 := zg_T ML cM) (r0 := r2) Z1 (fun Zc => va_runV (As := [.int (xs (n + 1)), .int (xs (n + 2)), .int (xs (n + 3))]) (rest := []) X (c_X7_stall l D V am cM (xs (n + 1)) (xs (n + 2)) (xs (n + 3)) τ r2 τ1 e2 H2.size) (cwV 3 hts gL_law_X7_stall rfl rfl rfl ⟨rfl, zh_X7_stall⟩ ⟨Nat.le_of_ble_eq_true rfl, Nat.le_of_ble_eq_true rfl⟩) (zy_pV (ci := 7) Zc mL_ok mk_0 rfl rfl) rfl rfl hl.1 rfl (lv_room (Nat.le_of_ble_eq_true rfl)) dL_law_240 ⟨Nat.le_of_ble_eq_true rfl, Nat.le_of_ble_eq_true rfl⟩) (fun H4 locs Z3 => ?_)
  clear Z1
  refine lv_pop hx hb dL_law_243 rfl ?_
  refine lv_goto (tgt := 1381) hx hb dL_law_244 (by decide) ?_
  exact kk σ1 τ1 hR1 _ _ _ Z3 hl
set_option maxHeartbeats 4000000 in
set_option maxRecDepth 100000 in
theorem law_case1 {p : Program} {l : Launch} {e : Env} {s : State} {m : MethodId} {below : List Frame} {meth : Method} {c : Code} {b L : Nat} {xs : Nat → Int32} (hL : L ≤ 3072) (C0 : lw_At p s m meth c b L xs) (D : va_G) (V : zz_V) (A : Nat → Prop) (hAq : ∀ q, A q → s.heap.size ≤ q) (ad am : Nat → Nat) (cA cM : Nat → ClassId) (σ τ : zg_S) (hR : lw_R σ τ) (n : Nat) (hn : n + 6 ≤ L) (kk : ∀ (σ τ : zg_S), lw_R σ τ → ∀ (H : Heap) (locs : List Loc) (ls : Array Slot), zz_S D V A s (zg_W XL ad cA σ ++ zg_W ML am cM τ) (zg_T XL cA ++ zg_T ML cM) H locs → lv_has ls 4 [(3, .int (nI n)), (2, .ref (am 0)), (1, .ref (ad 0)), (0, .ref b)] → W p l e room_1 s m #[Value.ref b] below meth c H locs 208 13935 (lw_Z below #[Value.ref b] s) (F0 m 1381 ls [])) {H : Heap} {locs : List Loc} {ls : Array Slot} (Z : zz_S D V A s (zg_W XL ad cA σ ++ zg_W ML am cM τ) (zg_T XL cA ++ zg_T ML cM) H locs) (hl : lv_has ls 4 [(3, .int (nI n)), (2, .ref (am 0)), (1, .ref (ad 0)), (0, .ref b)]) : W p l e room_1 s m #[Value.ref b] below meth c H locs 208 13935 (lw_Z below #[Value.ref b] s) (F0 m 247 ls []) := by
  obtain ⟨hx, hb, hr, hml, hown, hts, hX, hbl, hlocks, hgv⟩ := id C0
  have hts := fun w h => hts w (wsL_law_in w h)
  have X : CallFix p m c cL_law 4 s #[Value.ref b] wsL_law RL := ⟨hx, hb, hml, hown, hts⟩
  have hbA : ¬ A b := fun h => absurd (hAq b h) (Nat.not_le.mpr hbl)
  refine lv_aload_n hx hb dL_law_247 rfl (lv_at hl 2 rfl) ?_
  refine lv_aload_n hx hb dL_law_248 rfl (lv_at hl 3 rfl) ?_
  refine lv_iload_n hx hb dL_law_249 rfl (lv_at hl 0 rfl) ?_
  refine lv_iconst (v := 1) hx hb dL_law_250 (by decide) ?_
  refine lv_iadd hx hb dL_law_251 ?_
  refine zz_v (v := nI (n + 1)) (lw_add n 1) ?_
  refine va_sld hx hb hX hbl hbA Z.2.2.2.1 (vp_in_nI (by omega) (by omega)) dL_law_252 ?_
  refine zz_v (v := xs (n + 1)) (by rw [nI_clamp (by omega)]) ?_
  refine lv_aload_n hx hb dL_law_253 rfl (lv_at hl 3 rfl) ?_
  refine lv_iload_n hx hb dL_law_254 rfl (lv_at hl 0 rfl) ?_
  refine lv_iconst (v := 2) hx hb dL_law_255 (by decide) ?_
  refine lv_iadd hx hb dL_law_256 ?_
  refine zz_v (v := nI (n + 2)) (lw_add n 2) ?_
  refine va_sld hx hb hX hbl hbA Z.2.2.2.1 (vp_in_nI (by omega) (by omega)) dL_law_257 ?_
  refine zz_v (v := xs (n + 2)) (by rw [nI_clamp (by omega)]) ?_
  obtain ⟨r1, σ1, r2, τ1, e1, e2, hR1, hq⟩ := st_told hR (xs (n + 1)) (xs (n + 2))
  refine zy_cf (WA := zg_W XL ad cA σ) (WB := zg_W ML am cM τ) (WA1 := zg_W XL ad cA σ1) (TA := zg_T XL cA) (TB := zg_T ML cM) (TA1 := zg_T XL cA) (r0 := r1) Z (fun Zc => va_runV (As := [.int (xs (n + 1)), .int (xs (n + 2))]) (rest := []) X (c_X6_told l D V ad cA (xs (n + 1)) (xs (n + 2)) σ r1 σ1 e1 H.size) (cwV 2 hts gL_law_X6_told rfl rfl rfl ⟨rfl, zh_X6_told⟩ ⟨Nat.le_of_ble_eq_true rfl, Nat.le_of_ble_eq_true rfl⟩) (zy_pV (ci := 6) Zc xL_ok xk_0 rfl rfl) rfl rfl hl.1 rfl (lv_room (Nat.le_of_ble_eq_true rfl)) dL_law_258 ⟨Nat.le_of_ble_eq_true rfl, Nat.le_of_ble_eq_true rfl⟩) (fun H2 locs Z1 => ?_)
  clear Z
  refine lv_pop hx hb dL_law_261 rfl ?_
  refine lv_aload_n hx hb dL_law_262 rfl (lv_at hl 1 rfl) ?_
  refine lv_aload_n hx hb dL_law_263 rfl (lv_at hl 3 rfl) ?_
  refine lv_iload_n hx hb dL_law_264 rfl (lv_at hl 0 rfl) ?_
  refine lv_iconst (v := 1) hx hb dL_law_265 (by decide) ?_
  refine lv_iadd hx hb dL_law_266 ?_
  refine zz_v (v := nI (n + 1)) (lw_add n 1) ?_
  refine va_sld hx hb hX hbl hbA Z1.2.2.2.1 (vp_in_nI (by omega) (by omega)) dL_law_267 ?_
  refine zz_v (v := xs (n + 1)) (by rw [nI_clamp (by omega)]) ?_
  refine lv_aload_n hx hb dL_law_268 rfl (lv_at hl 3 rfl) ?_
  refine lv_iload_n hx hb dL_law_269 rfl (lv_at hl 0 rfl) ?_
  refine lv_iconst (v := 2) hx hb dL_law_270 (by decide) ?_
  refine lv_iadd hx hb dL_law_271 ?_
  refine zz_v (v := nI (n + 2)) (lw_add n 2) ?_
  refine va_sld hx hb hX hbl hbA Z1.2.2.2.1 (vp_in_nI (by omega) (by omega)) dL_law_272 ?_
  refine zz_v (v := xs (n + 2)) (by rw [nI_clamp (by omega)]) ?_
  refine zy_cf (WA := zg_W ML am cM τ) (WB := zg_W XL ad cA σ1) (WA1 := zg_W ML am cM τ1) (TA := zg_T ML cM) (TB := zg_T XL cA) (TA1 := zg_T ML cM) (r0 := r2) Z1 (fun Zc => va_runV (As := [.int (xs (n + 1)), .int (xs (n + 2))]) (rest := []) X (c_X7_told l D V am cM (xs (n + 1)) (xs (n + 2)) τ r2 τ1 e2 H2.size) (cwV 2 hts gL_law_X7_told rfl rfl rfl ⟨rfl, zh_X7_told⟩ ⟨Nat.le_of_ble_eq_true rfl, Nat.le_of_ble_eq_true rfl⟩) (zy_pV (ci := 7) Zc mL_ok mk_0 rfl rfl) rfl rfl hl.1 rfl (lv_room (Nat.le_of_ble_eq_true rfl)) dL_law_273 ⟨Nat.le_of_ble_eq_true rfl, Nat.le_of_ble_eq_true rfl⟩) (fun H4 locs Z3 => ?_)
  clear Z1
  refine lv_pop hx hb dL_law_276 rfl ?_
  refine lv_goto (tgt := 1381) hx hb dL_law_277 (by decide) ?_
  exact kk σ1 τ1 hR1 _ _ _ Z3 hl
set_option maxHeartbeats 4000000 in
set_option maxRecDepth 100000 in
theorem law_case2 {p : Program} {l : Launch} {e : Env} {s : State} {m : MethodId} {below : List Frame} {meth : Method} {c : Code} {b L : Nat} {xs : Nat → Int32} (hL : L ≤ 3072) (C0 : lw_At p s m meth c b L xs) (D : va_G) (V : zz_V) (A : Nat → Prop) (hAq : ∀ q, A q → s.heap.size ≤ q) (ad am : Nat → Nat) (cA cM : Nat → ClassId) (σ τ : zg_S) (hR : lw_R σ τ) (n : Nat) (hn : n + 6 ≤ L) (kk : ∀ (σ τ : zg_S), lw_R σ τ → ∀ (H : Heap) (locs : List Loc) (ls : Array Slot), zz_S D V A s (zg_W XL ad cA σ ++ zg_W ML am cM τ) (zg_T XL cA ++ zg_T ML cM) H locs → lv_has ls 4 [(3, .int (nI n)), (2, .ref (am 0)), (1, .ref (ad 0)), (0, .ref b)] → W p l e room_1 s m #[Value.ref b] below meth c H locs 208 13935 (lw_Z below #[Value.ref b] s) (F0 m 1381 ls [])) {H : Heap} {locs : List Loc} {ls : Array Slot} (Z : zz_S D V A s (zg_W XL ad cA σ ++ zg_W ML am cM τ) (zg_T XL cA ++ zg_T ML cM) H locs) (hl : lv_has ls 4 [(3, .int (nI n)), (2, .ref (am 0)), (1, .ref (ad 0)), (0, .ref b)]) : W p l e room_1 s m #[Value.ref b] below meth c H locs 208 13935 (lw_Z below #[Value.ref b] s) (F0 m 280 ls []) := by
  obtain ⟨hx, hb, hr, hml, hown, hts, hX, hbl, hlocks, hgv⟩ := id C0
  have hts := fun w h => hts w (wsL_law_in w h)
  have X : CallFix p m c cL_law 4 s #[Value.ref b] wsL_law RL := ⟨hx, hb, hml, hown, hts⟩
  have hbA : ¬ A b := fun h => absurd (hAq b h) (Nat.not_le.mpr hbl)
  refine lv_aload_n hx hb dL_law_280 rfl (lv_at hl 2 rfl) ?_
  refine lv_aload_n hx hb dL_law_281 rfl (lv_at hl 3 rfl) ?_
  refine lv_iload_n hx hb dL_law_282 rfl (lv_at hl 0 rfl) ?_
  refine lv_iconst (v := 1) hx hb dL_law_283 (by decide) ?_
  refine lv_iadd hx hb dL_law_284 ?_
  refine zz_v (v := nI (n + 1)) (lw_add n 1) ?_
  refine va_sld hx hb hX hbl hbA Z.2.2.2.1 (vp_in_nI (by omega) (by omega)) dL_law_285 ?_
  refine zz_v (v := xs (n + 1)) (by rw [nI_clamp (by omega)]) ?_
  refine lv_aload_n hx hb dL_law_286 rfl (lv_at hl 3 rfl) ?_
  refine lv_iload_n hx hb dL_law_287 rfl (lv_at hl 0 rfl) ?_
  refine lv_iconst (v := 2) hx hb dL_law_288 (by decide) ?_
  refine lv_iadd hx hb dL_law_289 ?_
  refine zz_v (v := nI (n + 2)) (lw_add n 2) ?_
  refine va_sld hx hb hX hbl hbA Z.2.2.2.1 (vp_in_nI (by omega) (by omega)) dL_law_290 ?_
  refine zz_v (v := xs (n + 2)) (by rw [nI_clamp (by omega)]) ?_
  obtain ⟨r1, σ1, r2, τ1, e1, e2, hR1, hq⟩ := st_as hR (xs (n + 1)) (xs (n + 2))
  refine zy_cf (WA := zg_W XL ad cA σ) (WB := zg_W ML am cM τ) (WA1 := zg_W XL ad cA σ1) (TA := zg_T XL cA) (TB := zg_T ML cM) (TA1 := zg_T XL cA) (r0 := r1) Z (fun Zc => va_runV (As := [.int (xs (n + 1)), .int (xs (n + 2))]) (rest := []) X (c_X6_as l D V ad cA (xs (n + 1)) (xs (n + 2)) σ r1 σ1 e1 H.size) (cwV 2 hts gL_law_X6_as rfl rfl rfl ⟨rfl, zh_X6_as⟩ ⟨Nat.le_of_ble_eq_true rfl, Nat.le_of_ble_eq_true rfl⟩) (zy_pV (ci := 6) Zc xL_ok xk_0 rfl rfl) rfl rfl hl.1 rfl (lv_room (Nat.le_of_ble_eq_true rfl)) dL_law_291 ⟨Nat.le_of_ble_eq_true rfl, Nat.le_of_ble_eq_true rfl⟩) (fun H2 locs Z1 => ?_)
  clear Z
  refine lv_pop hx hb dL_law_294 rfl ?_
  refine lv_aload_n hx hb dL_law_295 rfl (lv_at hl 1 rfl) ?_
  refine lv_aload_n hx hb dL_law_296 rfl (lv_at hl 3 rfl) ?_
  refine lv_iload_n hx hb dL_law_297 rfl (lv_at hl 0 rfl) ?_
  refine lv_iconst (v := 1) hx hb dL_law_298 (by decide) ?_
  refine lv_iadd hx hb dL_law_299 ?_
  refine zz_v (v := nI (n + 1)) (lw_add n 1) ?_
  refine va_sld hx hb hX hbl hbA Z1.2.2.2.1 (vp_in_nI (by omega) (by omega)) dL_law_300 ?_
  refine zz_v (v := xs (n + 1)) (by rw [nI_clamp (by omega)]) ?_
  refine lv_aload_n hx hb dL_law_301 rfl (lv_at hl 3 rfl) ?_
  refine lv_iload_n hx hb dL_law_302 rfl (lv_at hl 0 rfl) ?_
  refine lv_iconst (v := 2) hx hb dL_law_303 (by decide) ?_
  refine lv_iadd hx hb dL_law_304 ?_
  refine zz_v (v := nI (n + 2)) (lw_add n 2) ?_
  refine va_sld hx hb hX hbl hbA Z1.2.2.2.1 (vp_in_nI (by omega) (by omega)) dL_law_305 ?_
  refine zz_v (v := xs (n + 2)) (by rw [nI_clamp (by omega)]) ?_
  refine zy_cf (WA := zg_W ML am cM τ) (WB := zg_W XL ad cA σ1) (WA1 := zg_W ML am cM τ1) (TA := zg_T ML cM) (TB := zg_T XL cA) (TA1 := zg_T ML cM) (r0 := r2) Z1 (fun Zc => va_runV (As := [.int (xs (n + 1)), .int (xs (n + 2))]) (rest := []) X (c_X7_as l D V am cM (xs (n + 1)) (xs (n + 2)) τ r2 τ1 e2 H2.size) (cwV 2 hts gL_law_X7_as rfl rfl rfl ⟨rfl, zh_X7_as⟩ ⟨Nat.le_of_ble_eq_true rfl, Nat.le_of_ble_eq_true rfl⟩) (zy_pV (ci := 7) Zc mL_ok mk_0 rfl rfl) rfl rfl hl.1 rfl (lv_room (Nat.le_of_ble_eq_true rfl)) dL_law_306 ⟨Nat.le_of_ble_eq_true rfl, Nat.le_of_ble_eq_true rfl⟩) (fun H4 locs Z3 => ?_)
  clear Z1
  refine lv_pop hx hb dL_law_309 rfl ?_
  refine lv_goto (tgt := 1381) hx hb dL_law_310 (by decide) ?_
  exact kk σ1 τ1 hR1 _ _ _ Z3 hl
set_option maxHeartbeats 4000000 in
set_option maxRecDepth 100000 in
theorem law_case3 {p : Program} {l : Launch} {e : Env} {s : State} {m : MethodId} {below : List Frame} {meth : Method} {c : Code} {b L : Nat} {xs : Nat → Int32} (hL : L ≤ 3072) (C0 : lw_At p s m meth c b L xs) (D : va_G) (V : zz_V) (A : Nat → Prop) (hAq : ∀ q, A q → s.heap.size ≤ q) (ad am : Nat → Nat) (cA cM : Nat → ClassId) (σ τ : zg_S) (hR : lw_R σ τ) (n : Nat) (hn : n + 6 ≤ L) (kk : ∀ (σ τ : zg_S), lw_R σ τ → ∀ (H : Heap) (locs : List Loc) (ls : Array Slot), zz_S D V A s (zg_W XL ad cA σ ++ zg_W ML am cM τ) (zg_T XL cA ++ zg_T ML cM) H locs → lv_has ls 4 [(3, .int (nI n)), (2, .ref (am 0)), (1, .ref (ad 0)), (0, .ref b)] → W p l e room_1 s m #[Value.ref b] below meth c H locs 208 13935 (lw_Z below #[Value.ref b] s) (F0 m 1381 ls [])) {H : Heap} {locs : List Loc} {ls : Array Slot} (Z : zz_S D V A s (zg_W XL ad cA σ ++ zg_W ML am cM τ) (zg_T XL cA ++ zg_T ML cM) H locs) (hl : lv_has ls 4 [(3, .int (nI n)), (2, .ref (am 0)), (1, .ref (ad 0)), (0, .ref b)]) : W p l e room_1 s m #[Value.ref b] below meth c H locs 208 13935 (lw_Z below #[Value.ref b] s) (F0 m 313 ls []) := by
  obtain ⟨hx, hb, hr, hml, hown, hts, hX, hbl, hlocks, hgv⟩ := id C0
  have hts := fun w h => hts w (wsL_law_in w h)
  have X : CallFix p m c cL_law 4 s #[Value.ref b] wsL_law RL := ⟨hx, hb, hml, hown, hts⟩
  have hbA : ¬ A b := fun h => absurd (hAq b h) (Nat.not_le.mpr hbl)
  refine lv_aload_n hx hb dL_law_313 rfl (lv_at hl 2 rfl) ?_
  refine lv_aload_n hx hb dL_law_314 rfl (lv_at hl 3 rfl) ?_
  refine lv_iload_n hx hb dL_law_315 rfl (lv_at hl 0 rfl) ?_
  refine lv_iconst (v := 1) hx hb dL_law_316 (by decide) ?_
  refine lv_iadd hx hb dL_law_317 ?_
  refine zz_v (v := nI (n + 1)) (lw_add n 1) ?_
  refine va_sld hx hb hX hbl hbA Z.2.2.2.1 (vp_in_nI (by omega) (by omega)) dL_law_318 ?_
  refine zz_v (v := xs (n + 1)) (by rw [nI_clamp (by omega)]) ?_
  refine lv_aload_n hx hb dL_law_319 rfl (lv_at hl 3 rfl) ?_
  refine lv_iload_n hx hb dL_law_320 rfl (lv_at hl 0 rfl) ?_
  refine lv_iconst (v := 2) hx hb dL_law_321 (by decide) ?_
  refine lv_iadd hx hb dL_law_322 ?_
  refine zz_v (v := nI (n + 2)) (lw_add n 2) ?_
  refine va_sld hx hb hX hbl hbA Z.2.2.2.1 (vp_in_nI (by omega) (by omega)) dL_law_323 ?_
  refine zz_v (v := xs (n + 2)) (by rw [nI_clamp (by omega)]) ?_
  obtain ⟨r1, σ1, r2, τ1, e1, e2, hR1, hq⟩ := st_turns hR (xs (n + 1)) (xs (n + 2))
  refine zy_cf (WA := zg_W XL ad cA σ) (WB := zg_W ML am cM τ) (WA1 := zg_W XL ad cA σ1) (TA := zg_T XL cA) (TB := zg_T ML cM) (TA1 := zg_T XL cA) (r0 := r1) Z (fun Zc => va_runV (As := [.int (xs (n + 1)), .int (xs (n + 2))]) (rest := []) X (c_X6_turns l D V ad cA (xs (n + 1)) (xs (n + 2)) σ r1 σ1 e1 H.size) (cwV 2 hts gL_law_X6_turns rfl rfl rfl ⟨rfl, zh_X6_turns⟩ ⟨Nat.le_of_ble_eq_true rfl, Nat.le_of_ble_eq_true rfl⟩) (zy_pV (ci := 6) Zc xL_ok xk_0 rfl rfl) rfl rfl hl.1 rfl (lv_room (Nat.le_of_ble_eq_true rfl)) dL_law_324 ⟨Nat.le_of_ble_eq_true rfl, Nat.le_of_ble_eq_true rfl⟩) (fun H2 locs Z1 => ?_)
  clear Z
  refine lv_pop hx hb dL_law_327 rfl ?_
  refine lv_aload_n hx hb dL_law_328 rfl (lv_at hl 1 rfl) ?_
  refine lv_aload_n hx hb dL_law_329 rfl (lv_at hl 3 rfl) ?_
  refine lv_iload_n hx hb dL_law_330 rfl (lv_at hl 0 rfl) ?_
  refine lv_iconst (v := 1) hx hb dL_law_331 (by decide) ?_
  refine lv_iadd hx hb dL_law_332 ?_
  refine zz_v (v := nI (n + 1)) (lw_add n 1) ?_
  refine va_sld hx hb hX hbl hbA Z1.2.2.2.1 (vp_in_nI (by omega) (by omega)) dL_law_333 ?_
  refine zz_v (v := xs (n + 1)) (by rw [nI_clamp (by omega)]) ?_
  refine lv_aload_n hx hb dL_law_334 rfl (lv_at hl 3 rfl) ?_
  refine lv_iload_n hx hb dL_law_335 rfl (lv_at hl 0 rfl) ?_
  refine lv_iconst (v := 2) hx hb dL_law_336 (by decide) ?_
  refine lv_iadd hx hb dL_law_337 ?_
  refine zz_v (v := nI (n + 2)) (lw_add n 2) ?_
  refine va_sld hx hb hX hbl hbA Z1.2.2.2.1 (vp_in_nI (by omega) (by omega)) dL_law_338 ?_
  refine zz_v (v := xs (n + 2)) (by rw [nI_clamp (by omega)]) ?_
  refine zy_cf (WA := zg_W ML am cM τ) (WB := zg_W XL ad cA σ1) (WA1 := zg_W ML am cM τ1) (TA := zg_T ML cM) (TB := zg_T XL cA) (TA1 := zg_T ML cM) (r0 := r2) Z1 (fun Zc => va_runV (As := [.int (xs (n + 1)), .int (xs (n + 2))]) (rest := []) X (c_X7_turns l D V am cM (xs (n + 1)) (xs (n + 2)) τ r2 τ1 e2 H2.size) (cwV 2 hts gL_law_X7_turns rfl rfl rfl ⟨rfl, zh_X7_turns⟩ ⟨Nat.le_of_ble_eq_true rfl, Nat.le_of_ble_eq_true rfl⟩) (zy_pV (ci := 7) Zc mL_ok mk_0 rfl rfl) rfl rfl hl.1 rfl (lv_room (Nat.le_of_ble_eq_true rfl)) dL_law_339 ⟨Nat.le_of_ble_eq_true rfl, Nat.le_of_ble_eq_true rfl⟩) (fun H4 locs Z3 => ?_)
  clear Z1
  refine lv_pop hx hb dL_law_342 rfl ?_
  refine lv_goto (tgt := 1381) hx hb dL_law_343 (by decide) ?_
  exact kk σ1 τ1 hR1 _ _ _ Z3 hl
set_option maxHeartbeats 4000000 in
set_option maxRecDepth 100000 in
theorem law_case4 {p : Program} {l : Launch} {e : Env} {s : State} {m : MethodId} {below : List Frame} {meth : Method} {c : Code} {b L : Nat} {xs : Nat → Int32} (hL : L ≤ 3072) (C0 : lw_At p s m meth c b L xs) (D : va_G) (V : zz_V) (A : Nat → Prop) (hAq : ∀ q, A q → s.heap.size ≤ q) (ad am : Nat → Nat) (cA cM : Nat → ClassId) (σ τ : zg_S) (hR : lw_R σ τ) (n : Nat) (hn : n + 6 ≤ L) (kk : ∀ (σ τ : zg_S), lw_R σ τ → ∀ (H : Heap) (locs : List Loc) (ls : Array Slot), zz_S D V A s (zg_W XL ad cA σ ++ zg_W ML am cM τ) (zg_T XL cA ++ zg_T ML cM) H locs → lv_has ls 4 [(3, .int (nI n)), (2, .ref (am 0)), (1, .ref (ad 0)), (0, .ref b)] → W p l e room_1 s m #[Value.ref b] below meth c H locs 208 13935 (lw_Z below #[Value.ref b] s) (F0 m 1381 ls [])) {H : Heap} {locs : List Loc} {ls : Array Slot} (Z : zz_S D V A s (zg_W XL ad cA σ ++ zg_W ML am cM τ) (zg_T XL cA ++ zg_T ML cM) H locs) (hl : lv_has ls 4 [(3, .int (nI n)), (2, .ref (am 0)), (1, .ref (ad 0)), (0, .ref b)]) : W p l e room_1 s m #[Value.ref b] below meth c H locs 208 13935 (lw_Z below #[Value.ref b] s) (F0 m 346 ls []) := by
  obtain ⟨hx, hb, hr, hml, hown, hts, hX, hbl, hlocks, hgv⟩ := id C0
  have hts := fun w h => hts w (wsL_law_in w h)
  have X : CallFix p m c cL_law 4 s #[Value.ref b] wsL_law RL := ⟨hx, hb, hml, hown, hts⟩
  have hbA : ¬ A b := fun h => absurd (hAq b h) (Nat.not_le.mpr hbl)
  refine lv_aload_n hx hb dL_law_346 rfl (lv_at hl 2 rfl) ?_
  refine lv_aload_n hx hb dL_law_347 rfl (lv_at hl 3 rfl) ?_
  refine lv_iload_n hx hb dL_law_348 rfl (lv_at hl 0 rfl) ?_
  refine lv_iconst (v := 1) hx hb dL_law_349 (by decide) ?_
  refine lv_iadd hx hb dL_law_350 ?_
  refine zz_v (v := nI (n + 1)) (lw_add n 1) ?_
  refine va_sld hx hb hX hbl hbA Z.2.2.2.1 (vp_in_nI (by omega) (by omega)) dL_law_351 ?_
  refine zz_v (v := xs (n + 1)) (by rw [nI_clamp (by omega)]) ?_
  refine lv_aload_n hx hb dL_law_352 rfl (lv_at hl 3 rfl) ?_
  refine lv_iload_n hx hb dL_law_353 rfl (lv_at hl 0 rfl) ?_
  refine lv_iconst (v := 2) hx hb dL_law_354 (by decide) ?_
  refine lv_iadd hx hb dL_law_355 ?_
  refine zz_v (v := nI (n + 2)) (lw_add n 2) ?_
  refine va_sld hx hb hX hbl hbA Z.2.2.2.1 (vp_in_nI (by omega) (by omega)) dL_law_356 ?_
  refine zz_v (v := xs (n + 2)) (by rw [nI_clamp (by omega)]) ?_
  refine lv_aload_n hx hb dL_law_357 rfl (lv_at hl 3 rfl) ?_
  refine lv_iload_n hx hb dL_law_358 rfl (lv_at hl 0 rfl) ?_
  refine lv_iconst (v := 3) hx hb dL_law_359 (by decide) ?_
  refine lv_iadd hx hb dL_law_360 ?_
  refine zz_v (v := nI (n + 3)) (lw_add n 3) ?_
  refine va_sld hx hb hX hbl hbA Z.2.2.2.1 (vp_in_nI (by omega) (by omega)) dL_law_361 ?_
  refine zz_v (v := xs (n + 3)) (by rw [nI_clamp (by omega)]) ?_
  obtain ⟨r1, σ1, r2, τ1, e1, e2, hR1, hq⟩ := st_set hR (xs (n + 1)) (xs (n + 2)) (xs (n + 3))
  refine zy_cf (WA := zg_W XL ad cA σ) (WB := zg_W ML am cM τ) (WA1 := zg_W XL ad cA σ1) (TA := zg_T XL cA) (TB := zg_T ML cM) (TA1 := zg_T XL cA) (r0 := r1) Z (fun Zc => va_runV (As := [.int (xs (n + 1)), .int (xs (n + 2)), .int (xs (n + 3))]) (rest := []) X (c_X6_set l D V ad cA (xs (n + 1)) (xs (n + 2)) (xs (n + 3)) σ r1 σ1 e1 H.size) (cwV 3 hts gL_law_X6_set rfl rfl rfl ⟨rfl, zh_X6_set⟩ ⟨Nat.le_of_ble_eq_true rfl, Nat.le_of_ble_eq_true rfl⟩) (zy_pV (ci := 6) Zc xL_ok xk_0 rfl rfl) rfl rfl hl.1 rfl (lv_room (Nat.le_of_ble_eq_true rfl)) dL_law_362 ⟨Nat.le_of_ble_eq_true rfl, Nat.le_of_ble_eq_true rfl⟩) (fun H2 locs Z1 => ?_)
  clear Z
  refine lv_pop hx hb dL_law_365 rfl ?_
  refine lv_aload_n hx hb dL_law_366 rfl (lv_at hl 1 rfl) ?_
  refine lv_aload_n hx hb dL_law_367 rfl (lv_at hl 3 rfl) ?_
  refine lv_iload_n hx hb dL_law_368 rfl (lv_at hl 0 rfl) ?_
  refine lv_iconst (v := 1) hx hb dL_law_369 (by decide) ?_
  refine lv_iadd hx hb dL_law_370 ?_
  refine zz_v (v := nI (n + 1)) (lw_add n 1) ?_
  refine va_sld hx hb hX hbl hbA Z1.2.2.2.1 (vp_in_nI (by omega) (by omega)) dL_law_371 ?_
  refine zz_v (v := xs (n + 1)) (by rw [nI_clamp (by omega)]) ?_
  refine lv_aload_n hx hb dL_law_372 rfl (lv_at hl 3 rfl) ?_
  refine lv_iload_n hx hb dL_law_373 rfl (lv_at hl 0 rfl) ?_
  refine lv_iconst (v := 2) hx hb dL_law_374 (by decide) ?_
  refine lv_iadd hx hb dL_law_375 ?_
  refine zz_v (v := nI (n + 2)) (lw_add n 2) ?_
  refine va_sld hx hb hX hbl hbA Z1.2.2.2.1 (vp_in_nI (by omega) (by omega)) dL_law_376 ?_
  refine zz_v (v := xs (n + 2)) (by rw [nI_clamp (by omega)]) ?_
  refine lv_aload_n hx hb dL_law_377 rfl (lv_at hl 3 rfl) ?_
  refine lv_iload_n hx hb dL_law_378 rfl (lv_at hl 0 rfl) ?_
  refine lv_iconst (v := 3) hx hb dL_law_379 (by decide) ?_
  refine lv_iadd hx hb dL_law_380 ?_
  refine zz_v (v := nI (n + 3)) (lw_add n 3) ?_
  refine va_sld hx hb hX hbl hbA Z1.2.2.2.1 (vp_in_nI (by omega) (by omega)) dL_law_381 ?_
  refine zz_v (v := xs (n + 3)) (by rw [nI_clamp (by omega)]) ?_
  refine zy_cf (WA := zg_W ML am cM τ) (WB := zg_W XL ad cA σ1) (WA1 := zg_W ML am cM τ1) (TA := zg_T ML cM) (TB := zg_T XL cA) (TA1 := zg_T ML cM) (r0 := r2) Z1 (fun Zc => va_runV (As := [.int (xs (n + 1)), .int (xs (n + 2)), .int (xs (n + 3))]) (rest := []) X (c_X7_set l D V am cM (xs (n + 1)) (xs (n + 2)) (xs (n + 3)) τ r2 τ1 e2 H2.size) (cwV 3 hts gL_law_X7_set rfl rfl rfl ⟨rfl, zh_X7_set⟩ ⟨Nat.le_of_ble_eq_true rfl, Nat.le_of_ble_eq_true rfl⟩) (zy_pV (ci := 7) Zc mL_ok mk_0 rfl rfl) rfl rfl hl.1 rfl (lv_room (Nat.le_of_ble_eq_true rfl)) dL_law_382 ⟨Nat.le_of_ble_eq_true rfl, Nat.le_of_ble_eq_true rfl⟩) (fun H4 locs Z3 => ?_)
  clear Z1
  refine lv_pop hx hb dL_law_385 rfl ?_
  refine lv_goto (tgt := 1381) hx hb dL_law_386 (by decide) ?_
  exact kk σ1 τ1 hR1 _ _ _ Z3 hl
set_option maxHeartbeats 4000000 in
set_option maxRecDepth 100000 in
theorem law_case5 {p : Program} {l : Launch} {e : Env} {s : State} {m : MethodId} {below : List Frame} {meth : Method} {c : Code} {b L : Nat} {xs : Nat → Int32} (hL : L ≤ 3072) (C0 : lw_At p s m meth c b L xs) (D : va_G) (V : zz_V) (A : Nat → Prop) (hAq : ∀ q, A q → s.heap.size ≤ q) (ad am : Nat → Nat) (cA cM : Nat → ClassId) (σ τ : zg_S) (hR : lw_R σ τ) (n : Nat) (hn : n + 6 ≤ L) (kk : ∀ (σ τ : zg_S), lw_R σ τ → ∀ (H : Heap) (locs : List Loc) (ls : Array Slot), zz_S D V A s (zg_W XL ad cA σ ++ zg_W ML am cM τ) (zg_T XL cA ++ zg_T ML cM) H locs → lv_has ls 4 [(3, .int (nI n)), (2, .ref (am 0)), (1, .ref (ad 0)), (0, .ref b)] → W p l e room_1 s m #[Value.ref b] below meth c H locs 208 13935 (lw_Z below #[Value.ref b] s) (F0 m 1381 ls [])) {H : Heap} {locs : List Loc} {ls : Array Slot} (Z : zz_S D V A s (zg_W XL ad cA σ ++ zg_W ML am cM τ) (zg_T XL cA ++ zg_T ML cM) H locs) (hl : lv_has ls 4 [(3, .int (nI n)), (2, .ref (am 0)), (1, .ref (ad 0)), (0, .ref b)]) : W p l e room_1 s m #[Value.ref b] below meth c H locs 208 13935 (lw_Z below #[Value.ref b] s) (F0 m 389 ls []) := by
  obtain ⟨hx, hb, hr, hml, hown, hts, hX, hbl, hlocks, hgv⟩ := id C0
  have hts := fun w h => hts w (wsL_law_in w h)
  have X : CallFix p m c cL_law 4 s #[Value.ref b] wsL_law RL := ⟨hx, hb, hml, hown, hts⟩
  have hbA : ¬ A b := fun h => absurd (hAq b h) (Nat.not_le.mpr hbl)
  refine lv_aload_n hx hb dL_law_389 rfl (lv_at hl 2 rfl) ?_
  refine lv_aload_n hx hb dL_law_390 rfl (lv_at hl 3 rfl) ?_
  refine lv_iload_n hx hb dL_law_391 rfl (lv_at hl 0 rfl) ?_
  refine lv_iconst (v := 1) hx hb dL_law_392 (by decide) ?_
  refine lv_iadd hx hb dL_law_393 ?_
  refine zz_v (v := nI (n + 1)) (lw_add n 1) ?_
  refine va_sld hx hb hX hbl hbA Z.2.2.2.1 (vp_in_nI (by omega) (by omega)) dL_law_394 ?_
  refine zz_v (v := xs (n + 1)) (by rw [nI_clamp (by omega)]) ?_
  obtain ⟨r1, σ1, r2, τ1, e1, e2, hR1, hq⟩ := st_cloth hR (xs (n + 1))
  refine zy_cf (WA := zg_W XL ad cA σ) (WB := zg_W ML am cM τ) (WA1 := zg_W XL ad cA σ1) (TA := zg_T XL cA) (TB := zg_T ML cM) (TA1 := zg_T XL cA) (r0 := r1) Z (fun Zc => va_runV (As := [.int (xs (n + 1))]) (rest := []) X (c_X6_cloth l D V ad cA (xs (n + 1)) σ r1 σ1 e1 H.size) (cwV 1 hts gL_law_X6_cloth rfl rfl rfl ⟨rfl, zh_X6_cloth⟩ ⟨Nat.le_of_ble_eq_true rfl, Nat.le_of_ble_eq_true rfl⟩) (zy_pV (ci := 6) Zc xL_ok xk_0 rfl rfl) rfl rfl hl.1 rfl (lv_room (Nat.le_of_ble_eq_true rfl)) dL_law_395 ⟨Nat.le_of_ble_eq_true rfl, Nat.le_of_ble_eq_true rfl⟩) (fun H2 locs Z1 => ?_)
  clear Z
  refine lv_pop hx hb dL_law_398 rfl ?_
  refine lv_aload_n hx hb dL_law_399 rfl (lv_at hl 1 rfl) ?_
  refine lv_aload_n hx hb dL_law_400 rfl (lv_at hl 3 rfl) ?_
  refine lv_iload_n hx hb dL_law_401 rfl (lv_at hl 0 rfl) ?_
  refine lv_iconst (v := 1) hx hb dL_law_402 (by decide) ?_
  refine lv_iadd hx hb dL_law_403 ?_
  refine zz_v (v := nI (n + 1)) (lw_add n 1) ?_
  refine va_sld hx hb hX hbl hbA Z1.2.2.2.1 (vp_in_nI (by omega) (by omega)) dL_law_404 ?_
  refine zz_v (v := xs (n + 1)) (by rw [nI_clamp (by omega)]) ?_
  refine zy_cf (WA := zg_W ML am cM τ) (WB := zg_W XL ad cA σ1) (WA1 := zg_W ML am cM τ1) (TA := zg_T ML cM) (TB := zg_T XL cA) (TA1 := zg_T ML cM) (r0 := r2) Z1 (fun Zc => va_runV (As := [.int (xs (n + 1))]) (rest := []) X (c_X7_cloth l D V am cM (xs (n + 1)) τ r2 τ1 e2 H2.size) (cwV 1 hts gL_law_X7_cloth rfl rfl rfl ⟨rfl, zh_X7_cloth⟩ ⟨Nat.le_of_ble_eq_true rfl, Nat.le_of_ble_eq_true rfl⟩) (zy_pV (ci := 7) Zc mL_ok mk_0 rfl rfl) rfl rfl hl.1 rfl (lv_room (Nat.le_of_ble_eq_true rfl)) dL_law_405 ⟨Nat.le_of_ble_eq_true rfl, Nat.le_of_ble_eq_true rfl⟩) (fun H4 locs Z3 => ?_)
  clear Z1
  refine lv_pop hx hb dL_law_408 rfl ?_
  refine lv_goto (tgt := 1381) hx hb dL_law_409 (by decide) ?_
  exact kk σ1 τ1 hR1 _ _ _ Z3 hl
set_option maxHeartbeats 4000000 in
set_option maxRecDepth 100000 in
theorem law_case6 {p : Program} {l : Launch} {e : Env} {s : State} {m : MethodId} {below : List Frame} {meth : Method} {c : Code} {b L : Nat} {xs : Nat → Int32} (hL : L ≤ 3072) (C0 : lw_At p s m meth c b L xs) (D : va_G) (V : zz_V) (A : Nat → Prop) (hAq : ∀ q, A q → s.heap.size ≤ q) (ad am : Nat → Nat) (cA cM : Nat → ClassId) (σ τ : zg_S) (hR : lw_R σ τ) (n : Nat) (hn : n + 6 ≤ L) (kk : ∀ (σ τ : zg_S), lw_R σ τ → ∀ (H : Heap) (locs : List Loc) (ls : Array Slot), zz_S D V A s (zg_W XL ad cA σ ++ zg_W ML am cM τ) (zg_T XL cA ++ zg_T ML cM) H locs → lv_has ls 4 [(3, .int (nI n)), (2, .ref (am 0)), (1, .ref (ad 0)), (0, .ref b)] → W p l e room_1 s m #[Value.ref b] below meth c H locs 208 13935 (lw_Z below #[Value.ref b] s) (F0 m 1381 ls [])) {H : Heap} {locs : List Loc} {ls : Array Slot} (Z : zz_S D V A s (zg_W XL ad cA σ ++ zg_W ML am cM τ) (zg_T XL cA ++ zg_T ML cM) H locs) (hl : lv_has ls 4 [(3, .int (nI n)), (2, .ref (am 0)), (1, .ref (ad 0)), (0, .ref b)]) : W p l e room_1 s m #[Value.ref b] below meth c H locs 208 13935 (lw_Z below #[Value.ref b] s) (F0 m 412 ls []) := by
  obtain ⟨hx, hb, hr, hml, hown, hts, hX, hbl, hlocks, hgv⟩ := id C0
  have hts := fun w h => hts w (wsL_law_in w h)
  have X : CallFix p m c cL_law 4 s #[Value.ref b] wsL_law RL := ⟨hx, hb, hml, hown, hts⟩
  have hbA : ¬ A b := fun h => absurd (hAq b h) (Nat.not_le.mpr hbl)
  refine lv_aload_n hx hb dL_law_412 rfl (lv_at hl 2 rfl) ?_
  refine lv_aload_n hx hb dL_law_413 rfl (lv_at hl 3 rfl) ?_
  refine lv_iload_n hx hb dL_law_414 rfl (lv_at hl 0 rfl) ?_
  refine lv_iconst (v := 1) hx hb dL_law_415 (by decide) ?_
  refine lv_iadd hx hb dL_law_416 ?_
  refine zz_v (v := nI (n + 1)) (lw_add n 1) ?_
  refine va_sld hx hb hX hbl hbA Z.2.2.2.1 (vp_in_nI (by omega) (by omega)) dL_law_417 ?_
  refine zz_v (v := xs (n + 1)) (by rw [nI_clamp (by omega)]) ?_
  refine lv_aload_n hx hb dL_law_418 rfl (lv_at hl 3 rfl) ?_
  refine lv_iload_n hx hb dL_law_419 rfl (lv_at hl 0 rfl) ?_
  refine lv_iconst (v := 2) hx hb dL_law_420 (by decide) ?_
  refine lv_iadd hx hb dL_law_421 ?_
  refine zz_v (v := nI (n + 2)) (lw_add n 2) ?_
  refine va_sld hx hb hX hbl hbA Z.2.2.2.1 (vp_in_nI (by omega) (by omega)) dL_law_422 ?_
  refine zz_v (v := xs (n + 2)) (by rw [nI_clamp (by omega)]) ?_
  obtain ⟨r1, σ1, r2, τ1, e1, e2, hR1, hq⟩ := st_rule hR (xs (n + 1)) (xs (n + 2))
  refine zy_cf (WA := zg_W XL ad cA σ) (WB := zg_W ML am cM τ) (WA1 := zg_W XL ad cA σ1) (TA := zg_T XL cA) (TB := zg_T ML cM) (TA1 := zg_T XL cA) (r0 := r1) Z (fun Zc => va_runV (As := [.int (xs (n + 1)), .int (xs (n + 2))]) (rest := []) X (c_X6_rule l D V ad cA (xs (n + 1)) (xs (n + 2)) σ r1 σ1 e1 H.size) (cwV 2 hts gL_law_X6_rule rfl rfl rfl ⟨rfl, zh_X6_rule⟩ ⟨Nat.le_of_ble_eq_true rfl, Nat.le_of_ble_eq_true rfl⟩) (zy_pV (ci := 6) Zc xL_ok xk_0 rfl rfl) rfl rfl hl.1 rfl (lv_room (Nat.le_of_ble_eq_true rfl)) dL_law_423 ⟨Nat.le_of_ble_eq_true rfl, Nat.le_of_ble_eq_true rfl⟩) (fun H2 locs Z1 => ?_)
  clear Z
  refine lv_pop hx hb dL_law_426 rfl ?_
  refine lv_aload_n hx hb dL_law_427 rfl (lv_at hl 1 rfl) ?_
  refine lv_aload_n hx hb dL_law_428 rfl (lv_at hl 3 rfl) ?_
  refine lv_iload_n hx hb dL_law_429 rfl (lv_at hl 0 rfl) ?_
  refine lv_iconst (v := 1) hx hb dL_law_430 (by decide) ?_
  refine lv_iadd hx hb dL_law_431 ?_
  refine zz_v (v := nI (n + 1)) (lw_add n 1) ?_
  refine va_sld hx hb hX hbl hbA Z1.2.2.2.1 (vp_in_nI (by omega) (by omega)) dL_law_432 ?_
  refine zz_v (v := xs (n + 1)) (by rw [nI_clamp (by omega)]) ?_
  refine lv_aload_n hx hb dL_law_433 rfl (lv_at hl 3 rfl) ?_
  refine lv_iload_n hx hb dL_law_434 rfl (lv_at hl 0 rfl) ?_
  refine lv_iconst (v := 2) hx hb dL_law_435 (by decide) ?_
  refine lv_iadd hx hb dL_law_436 ?_
  refine zz_v (v := nI (n + 2)) (lw_add n 2) ?_
  refine va_sld hx hb hX hbl hbA Z1.2.2.2.1 (vp_in_nI (by omega) (by omega)) dL_law_437 ?_
  refine zz_v (v := xs (n + 2)) (by rw [nI_clamp (by omega)]) ?_
  refine zy_cf (WA := zg_W ML am cM τ) (WB := zg_W XL ad cA σ1) (WA1 := zg_W ML am cM τ1) (TA := zg_T ML cM) (TB := zg_T XL cA) (TA1 := zg_T ML cM) (r0 := r2) Z1 (fun Zc => va_runV (As := [.int (xs (n + 1)), .int (xs (n + 2))]) (rest := []) X (c_X7_rule l D V am cM (xs (n + 1)) (xs (n + 2)) τ r2 τ1 e2 H2.size) (cwV 2 hts gL_law_X7_rule rfl rfl rfl ⟨rfl, zh_X7_rule⟩ ⟨Nat.le_of_ble_eq_true rfl, Nat.le_of_ble_eq_true rfl⟩) (zy_pV (ci := 7) Zc mL_ok mk_0 rfl rfl) rfl rfl hl.1 rfl (lv_room (Nat.le_of_ble_eq_true rfl)) dL_law_438 ⟨Nat.le_of_ble_eq_true rfl, Nat.le_of_ble_eq_true rfl⟩) (fun H4 locs Z3 => ?_)
  clear Z1
  refine lv_pop hx hb dL_law_441 rfl ?_
  refine lv_goto (tgt := 1381) hx hb dL_law_442 (by decide) ?_
  exact kk σ1 τ1 hR1 _ _ _ Z3 hl
set_option maxHeartbeats 4000000 in
set_option maxRecDepth 100000 in
theorem law_case7 {p : Program} {l : Launch} {e : Env} {s : State} {m : MethodId} {below : List Frame} {meth : Method} {c : Code} {b L : Nat} {xs : Nat → Int32} (hL : L ≤ 3072) (C0 : lw_At p s m meth c b L xs) (D : va_G) (V : zz_V) (A : Nat → Prop) (hAq : ∀ q, A q → s.heap.size ≤ q) (ad am : Nat → Nat) (cA cM : Nat → ClassId) (σ τ : zg_S) (hR : lw_R σ τ) (n : Nat) (hn : n + 6 ≤ L) (kk : ∀ (σ τ : zg_S), lw_R σ τ → ∀ (H : Heap) (locs : List Loc) (ls : Array Slot), zz_S D V A s (zg_W XL ad cA σ ++ zg_W ML am cM τ) (zg_T XL cA ++ zg_T ML cM) H locs → lv_has ls 4 [(3, .int (nI n)), (2, .ref (am 0)), (1, .ref (ad 0)), (0, .ref b)] → W p l e room_1 s m #[Value.ref b] below meth c H locs 208 13935 (lw_Z below #[Value.ref b] s) (F0 m 1381 ls [])) {H : Heap} {locs : List Loc} {ls : Array Slot} (Z : zz_S D V A s (zg_W XL ad cA σ ++ zg_W ML am cM τ) (zg_T XL cA ++ zg_T ML cM) H locs) (hl : lv_has ls 4 [(3, .int (nI n)), (2, .ref (am 0)), (1, .ref (ad 0)), (0, .ref b)]) : W p l e room_1 s m #[Value.ref b] below meth c H locs 208 13935 (lw_Z below #[Value.ref b] s) (F0 m 445 ls []) := by
  obtain ⟨hx, hb, hr, hml, hown, hts, hX, hbl, hlocks, hgv⟩ := id C0
  have hts := fun w h => hts w (wsL_law_in w h)
  have X : CallFix p m c cL_law 4 s #[Value.ref b] wsL_law RL := ⟨hx, hb, hml, hown, hts⟩
  have hbA : ¬ A b := fun h => absurd (hAq b h) (Nat.not_le.mpr hbl)
  refine lv_aload_n hx hb dL_law_445 rfl (lv_at hl 2 rfl) ?_
  refine lv_aload_n hx hb dL_law_446 rfl (lv_at hl 3 rfl) ?_
  refine lv_iload_n hx hb dL_law_447 rfl (lv_at hl 0 rfl) ?_
  refine lv_iconst (v := 1) hx hb dL_law_448 (by decide) ?_
  refine lv_iadd hx hb dL_law_449 ?_
  refine zz_v (v := nI (n + 1)) (lw_add n 1) ?_
  refine va_sld hx hb hX hbl hbA Z.2.2.2.1 (vp_in_nI (by omega) (by omega)) dL_law_450 ?_
  refine zz_v (v := xs (n + 1)) (by rw [nI_clamp (by omega)]) ?_
  obtain ⟨r1, σ1, r2, τ1, e1, e2, hR1, hq⟩ := st_deal hR (xs (n + 1))
  refine zy_cf (WA := zg_W XL ad cA σ) (WB := zg_W ML am cM τ) (WA1 := zg_W XL ad cA σ1) (TA := zg_T XL cA) (TB := zg_T ML cM) (TA1 := zg_T XL cA) (r0 := r1) Z (fun Zc => va_runV (As := [.int (xs (n + 1))]) (rest := []) X (c_X6_deal l D V ad cA (xs (n + 1)) σ r1 σ1 e1 H.size) (cwV 1 hts gL_law_X6_deal rfl rfl rfl ⟨rfl, zh_X6_deal⟩ ⟨Nat.le_of_ble_eq_true rfl, Nat.le_of_ble_eq_true rfl⟩) (zy_pV (ci := 6) Zc xL_ok xk_0 rfl rfl) rfl rfl hl.1 rfl (lv_room (Nat.le_of_ble_eq_true rfl)) dL_law_451 ⟨Nat.le_of_ble_eq_true rfl, Nat.le_of_ble_eq_true rfl⟩) (fun H2 locs Z1 => ?_)
  clear Z
  refine lv_pop hx hb dL_law_454 rfl ?_
  refine lv_aload_n hx hb dL_law_455 rfl (lv_at hl 1 rfl) ?_
  refine lv_aload_n hx hb dL_law_456 rfl (lv_at hl 3 rfl) ?_
  refine lv_iload_n hx hb dL_law_457 rfl (lv_at hl 0 rfl) ?_
  refine lv_iconst (v := 1) hx hb dL_law_458 (by decide) ?_
  refine lv_iadd hx hb dL_law_459 ?_
  refine zz_v (v := nI (n + 1)) (lw_add n 1) ?_
  refine va_sld hx hb hX hbl hbA Z1.2.2.2.1 (vp_in_nI (by omega) (by omega)) dL_law_460 ?_
  refine zz_v (v := xs (n + 1)) (by rw [nI_clamp (by omega)]) ?_
  refine zy_cf (WA := zg_W ML am cM τ) (WB := zg_W XL ad cA σ1) (WA1 := zg_W ML am cM τ1) (TA := zg_T ML cM) (TB := zg_T XL cA) (TA1 := zg_T ML cM) (r0 := r2) Z1 (fun Zc => va_runV (As := [.int (xs (n + 1))]) (rest := []) X (c_X7_deal l D V am cM (xs (n + 1)) τ r2 τ1 e2 H2.size) (cwV 1 hts gL_law_X7_deal rfl rfl rfl ⟨rfl, zh_X7_deal⟩ ⟨Nat.le_of_ble_eq_true rfl, Nat.le_of_ble_eq_true rfl⟩) (zy_pV (ci := 7) Zc mL_ok mk_0 rfl rfl) rfl rfl hl.1 rfl (lv_room (Nat.le_of_ble_eq_true rfl)) dL_law_461 ⟨Nat.le_of_ble_eq_true rfl, Nat.le_of_ble_eq_true rfl⟩) (fun H4 locs Z3 => ?_)
  clear Z1
  refine lv_pop hx hb dL_law_464 rfl ?_
  refine lv_goto (tgt := 1381) hx hb dL_law_465 (by decide) ?_
  exact kk σ1 τ1 hR1 _ _ _ Z3 hl
set_option maxHeartbeats 4000000 in
set_option maxRecDepth 100000 in
theorem law_case8 {p : Program} {l : Launch} {e : Env} {s : State} {m : MethodId} {below : List Frame} {meth : Method} {c : Code} {b L : Nat} {xs : Nat → Int32} (hL : L ≤ 3072) (C0 : lw_At p s m meth c b L xs) (D : va_G) (V : zz_V) (A : Nat → Prop) (hAq : ∀ q, A q → s.heap.size ≤ q) (ad am : Nat → Nat) (cA cM : Nat → ClassId) (σ τ : zg_S) (hR : lw_R σ τ) (n : Nat) (hn : n + 6 ≤ L) (kk : ∀ (σ τ : zg_S), lw_R σ τ → ∀ (H : Heap) (locs : List Loc) (ls : Array Slot), zz_S D V A s (zg_W XL ad cA σ ++ zg_W ML am cM τ) (zg_T XL cA ++ zg_T ML cM) H locs → lv_has ls 4 [(3, .int (nI n)), (2, .ref (am 0)), (1, .ref (ad 0)), (0, .ref b)] → W p l e room_1 s m #[Value.ref b] below meth c H locs 208 13935 (lw_Z below #[Value.ref b] s) (F0 m 1381 ls [])) {H : Heap} {locs : List Loc} {ls : Array Slot} (Z : zz_S D V A s (zg_W XL ad cA σ ++ zg_W ML am cM τ) (zg_T XL cA ++ zg_T ML cM) H locs) (hl : lv_has ls 4 [(3, .int (nI n)), (2, .ref (am 0)), (1, .ref (ad 0)), (0, .ref b)]) : W p l e room_1 s m #[Value.ref b] below meth c H locs 208 13935 (lw_Z below #[Value.ref b] s) (F0 m 468 ls []) := by
  obtain ⟨hx, hb, hr, hml, hown, hts, hX, hbl, hlocks, hgv⟩ := id C0
  have hts := fun w h => hts w (wsL_law_in w h)
  have X : CallFix p m c cL_law 4 s #[Value.ref b] wsL_law RL := ⟨hx, hb, hml, hown, hts⟩
  have hbA : ¬ A b := fun h => absurd (hAq b h) (Nat.not_le.mpr hbl)
  refine lv_aload_n hx hb dL_law_468 rfl (lv_at hl 2 rfl) ?_
  refine lv_aload_n hx hb dL_law_469 rfl (lv_at hl 3 rfl) ?_
  refine lv_iload_n hx hb dL_law_470 rfl (lv_at hl 0 rfl) ?_
  refine lv_iconst (v := 1) hx hb dL_law_471 (by decide) ?_
  refine lv_iadd hx hb dL_law_472 ?_
  refine zz_v (v := nI (n + 1)) (lw_add n 1) ?_
  refine va_sld hx hb hX hbl hbA Z.2.2.2.1 (vp_in_nI (by omega) (by omega)) dL_law_473 ?_
  refine zz_v (v := xs (n + 1)) (by rw [nI_clamp (by omega)]) ?_
  obtain ⟨r1, σ1, r2, τ1, e1, e2, hR1, hq⟩ := st_seed hR (xs (n + 1))
  refine zy_cf (WA := zg_W XL ad cA σ) (WB := zg_W ML am cM τ) (WA1 := zg_W XL ad cA σ1) (TA := zg_T XL cA) (TB := zg_T ML cM) (TA1 := zg_T XL cA) (r0 := r1) Z (fun Zc => va_runV (As := [.int (xs (n + 1))]) (rest := []) X (c_X6_seed l D V ad cA (xs (n + 1)) σ r1 σ1 e1 H.size) (cwV 1 hts gL_law_X6_seed rfl rfl rfl ⟨rfl, zh_X6_seed⟩ ⟨Nat.le_of_ble_eq_true rfl, Nat.le_of_ble_eq_true rfl⟩) (zy_pV (ci := 6) Zc xL_ok xk_0 rfl rfl) rfl rfl hl.1 rfl (lv_room (Nat.le_of_ble_eq_true rfl)) dL_law_474 ⟨Nat.le_of_ble_eq_true rfl, Nat.le_of_ble_eq_true rfl⟩) (fun H2 locs Z1 => ?_)
  clear Z
  refine lv_pop hx hb dL_law_477 rfl ?_
  refine lv_aload_n hx hb dL_law_478 rfl (lv_at hl 1 rfl) ?_
  refine lv_aload_n hx hb dL_law_479 rfl (lv_at hl 3 rfl) ?_
  refine lv_iload_n hx hb dL_law_480 rfl (lv_at hl 0 rfl) ?_
  refine lv_iconst (v := 1) hx hb dL_law_481 (by decide) ?_
  refine lv_iadd hx hb dL_law_482 ?_
  refine zz_v (v := nI (n + 1)) (lw_add n 1) ?_
  refine va_sld hx hb hX hbl hbA Z1.2.2.2.1 (vp_in_nI (by omega) (by omega)) dL_law_483 ?_
  refine zz_v (v := xs (n + 1)) (by rw [nI_clamp (by omega)]) ?_
  refine zy_cf (WA := zg_W ML am cM τ) (WB := zg_W XL ad cA σ1) (WA1 := zg_W ML am cM τ1) (TA := zg_T ML cM) (TB := zg_T XL cA) (TA1 := zg_T ML cM) (r0 := r2) Z1 (fun Zc => va_runV (As := [.int (xs (n + 1))]) (rest := []) X (c_X7_seed l D V am cM (xs (n + 1)) τ r2 τ1 e2 H2.size) (cwV 1 hts gL_law_X7_seed rfl rfl rfl ⟨rfl, zh_X7_seed⟩ ⟨Nat.le_of_ble_eq_true rfl, Nat.le_of_ble_eq_true rfl⟩) (zy_pV (ci := 7) Zc mL_ok mk_0 rfl rfl) rfl rfl hl.1 rfl (lv_room (Nat.le_of_ble_eq_true rfl)) dL_law_484 ⟨Nat.le_of_ble_eq_true rfl, Nat.le_of_ble_eq_true rfl⟩) (fun H4 locs Z3 => ?_)
  clear Z1
  refine lv_pop hx hb dL_law_487 rfl ?_
  refine lv_goto (tgt := 1381) hx hb dL_law_488 (by decide) ?_
  exact kk σ1 τ1 hR1 _ _ _ Z3 hl
set_option maxHeartbeats 4000000 in
set_option maxRecDepth 100000 in
theorem law_case9 {p : Program} {l : Launch} {e : Env} {s : State} {m : MethodId} {below : List Frame} {meth : Method} {c : Code} {b L : Nat} {xs : Nat → Int32} (hL : L ≤ 3072) (C0 : lw_At p s m meth c b L xs) (D : va_G) (V : zz_V) (A : Nat → Prop) (hAq : ∀ q, A q → s.heap.size ≤ q) (ad am : Nat → Nat) (cA cM : Nat → ClassId) (σ τ : zg_S) (hR : lw_R σ τ) (n : Nat) (hn : n + 6 ≤ L) (kk : ∀ (σ τ : zg_S), lw_R σ τ → ∀ (H : Heap) (locs : List Loc) (ls : Array Slot), zz_S D V A s (zg_W XL ad cA σ ++ zg_W ML am cM τ) (zg_T XL cA ++ zg_T ML cM) H locs → lv_has ls 4 [(3, .int (nI n)), (2, .ref (am 0)), (1, .ref (ad 0)), (0, .ref b)] → W p l e room_1 s m #[Value.ref b] below meth c H locs 208 13935 (lw_Z below #[Value.ref b] s) (F0 m 1381 ls [])) {H : Heap} {locs : List Loc} {ls : Array Slot} (Z : zz_S D V A s (zg_W XL ad cA σ ++ zg_W ML am cM τ) (zg_T XL cA ++ zg_T ML cM) H locs) (hl : lv_has ls 4 [(3, .int (nI n)), (2, .ref (am 0)), (1, .ref (ad 0)), (0, .ref b)]) : W p l e room_1 s m #[Value.ref b] below meth c H locs 208 13935 (lw_Z below #[Value.ref b] s) (F0 m 491 ls []) := by
  obtain ⟨hx, hb, hr, hml, hown, hts, hX, hbl, hlocks, hgv⟩ := id C0
  have hts := fun w h => hts w (wsL_law_in w h)
  have X : CallFix p m c cL_law 4 s #[Value.ref b] wsL_law RL := ⟨hx, hb, hml, hown, hts⟩
  have hbA : ¬ A b := fun h => absurd (hAq b h) (Nat.not_le.mpr hbl)
  refine lv_aload_n hx hb dL_law_491 rfl (lv_at hl 2 rfl) ?_
  refine lv_aload_n hx hb dL_law_492 rfl (lv_at hl 3 rfl) ?_
  refine lv_iload_n hx hb dL_law_493 rfl (lv_at hl 0 rfl) ?_
  refine lv_iconst (v := 1) hx hb dL_law_494 (by decide) ?_
  refine lv_iadd hx hb dL_law_495 ?_
  refine zz_v (v := nI (n + 1)) (lw_add n 1) ?_
  refine va_sld hx hb hX hbl hbA Z.2.2.2.1 (vp_in_nI (by omega) (by omega)) dL_law_496 ?_
  refine zz_v (v := xs (n + 1)) (by rw [nI_clamp (by omega)]) ?_
  obtain ⟨r1, σ1, r2, τ1, e1, e2, hR1, hq⟩ := st_hours hR (xs (n + 1))
  refine zy_cf (WA := zg_W XL ad cA σ) (WB := zg_W ML am cM τ) (WA1 := zg_W XL ad cA σ1) (TA := zg_T XL cA) (TB := zg_T ML cM) (TA1 := zg_T XL cA) (r0 := r1) Z (fun Zc => va_runV (As := [.int (xs (n + 1))]) (rest := []) X (c_X6_hours l D V ad cA (xs (n + 1)) σ r1 σ1 e1 H.size) (cwV 1 hts gL_law_X6_hours rfl rfl rfl ⟨rfl, zh_X6_hours⟩ ⟨Nat.le_of_ble_eq_true rfl, Nat.le_of_ble_eq_true rfl⟩) (zy_pV (ci := 6) Zc xL_ok xk_0 rfl rfl) rfl rfl hl.1 rfl (lv_room (Nat.le_of_ble_eq_true rfl)) dL_law_497 ⟨Nat.le_of_ble_eq_true rfl, Nat.le_of_ble_eq_true rfl⟩) (fun H2 locs Z1 => ?_)
  clear Z
  refine lv_pop hx hb dL_law_500 rfl ?_
  refine lv_aload_n hx hb dL_law_501 rfl (lv_at hl 1 rfl) ?_
  refine lv_aload_n hx hb dL_law_502 rfl (lv_at hl 3 rfl) ?_
  refine lv_iload_n hx hb dL_law_503 rfl (lv_at hl 0 rfl) ?_
  refine lv_iconst (v := 1) hx hb dL_law_504 (by decide) ?_
  refine lv_iadd hx hb dL_law_505 ?_
  refine zz_v (v := nI (n + 1)) (lw_add n 1) ?_
  refine va_sld hx hb hX hbl hbA Z1.2.2.2.1 (vp_in_nI (by omega) (by omega)) dL_law_506 ?_
  refine zz_v (v := xs (n + 1)) (by rw [nI_clamp (by omega)]) ?_
  refine zy_cf (WA := zg_W ML am cM τ) (WB := zg_W XL ad cA σ1) (WA1 := zg_W ML am cM τ1) (TA := zg_T ML cM) (TB := zg_T XL cA) (TA1 := zg_T ML cM) (r0 := r2) Z1 (fun Zc => va_runV (As := [.int (xs (n + 1))]) (rest := []) X (c_X7_hours l D V am cM (xs (n + 1)) τ r2 τ1 e2 H2.size) (cwV 1 hts gL_law_X7_hours rfl rfl rfl ⟨rfl, zh_X7_hours⟩ ⟨Nat.le_of_ble_eq_true rfl, Nat.le_of_ble_eq_true rfl⟩) (zy_pV (ci := 7) Zc mL_ok mk_0 rfl rfl) rfl rfl hl.1 rfl (lv_room (Nat.le_of_ble_eq_true rfl)) dL_law_507 ⟨Nat.le_of_ble_eq_true rfl, Nat.le_of_ble_eq_true rfl⟩) (fun H4 locs Z3 => ?_)
  clear Z1
  refine lv_pop hx hb dL_law_510 rfl ?_
  refine lv_goto (tgt := 1381) hx hb dL_law_511 (by decide) ?_
  exact kk σ1 τ1 hR1 _ _ _ Z3 hl
set_option maxHeartbeats 4000000 in
set_option maxRecDepth 100000 in
theorem law_case10 {p : Program} {l : Launch} {e : Env} {s : State} {m : MethodId} {below : List Frame} {meth : Method} {c : Code} {b L : Nat} {xs : Nat → Int32} (hL : L ≤ 3072) (C0 : lw_At p s m meth c b L xs) (D : va_G) (V : zz_V) (A : Nat → Prop) (hAq : ∀ q, A q → s.heap.size ≤ q) (ad am : Nat → Nat) (cA cM : Nat → ClassId) (σ τ : zg_S) (hR : lw_R σ τ) (n : Nat) (hn : n + 6 ≤ L) (kk : ∀ (σ τ : zg_S), lw_R σ τ → ∀ (H : Heap) (locs : List Loc) (ls : Array Slot), zz_S D V A s (zg_W XL ad cA σ ++ zg_W ML am cM τ) (zg_T XL cA ++ zg_T ML cM) H locs → lv_has ls 4 [(3, .int (nI n)), (2, .ref (am 0)), (1, .ref (ad 0)), (0, .ref b)] → W p l e room_1 s m #[Value.ref b] below meth c H locs 208 13935 (lw_Z below #[Value.ref b] s) (F0 m 1381 ls [])) {H : Heap} {locs : List Loc} {ls : Array Slot} (Z : zz_S D V A s (zg_W XL ad cA σ ++ zg_W ML am cM τ) (zg_T XL cA ++ zg_T ML cM) H locs) (hl : lv_has ls 4 [(3, .int (nI n)), (2, .ref (am 0)), (1, .ref (ad 0)), (0, .ref b)]) : W p l e room_1 s m #[Value.ref b] below meth c H locs 208 13935 (lw_Z below #[Value.ref b] s) (F0 m 514 ls []) := by
  obtain ⟨hx, hb, hr, hml, hown, hts, hX, hbl, hlocks, hgv⟩ := id C0
  have hts := fun w h => hts w (wsL_law_in w h)
  have X : CallFix p m c cL_law 4 s #[Value.ref b] wsL_law RL := ⟨hx, hb, hml, hown, hts⟩
  have hbA : ¬ A b := fun h => absurd (hAq b h) (Nat.not_le.mpr hbl)
  refine lv_aload_n hx hb dL_law_514 rfl (lv_at hl 2 rfl) ?_
  refine lv_aload_n hx hb dL_law_515 rfl (lv_at hl 3 rfl) ?_
  refine lv_iload_n hx hb dL_law_516 rfl (lv_at hl 0 rfl) ?_
  refine lv_iconst (v := 1) hx hb dL_law_517 (by decide) ?_
  refine lv_iadd hx hb dL_law_518 ?_
  refine zz_v (v := nI (n + 1)) (lw_add n 1) ?_
  refine va_sld hx hb hX hbl hbA Z.2.2.2.1 (vp_in_nI (by omega) (by omega)) dL_law_519 ?_
  refine zz_v (v := xs (n + 1)) (by rw [nI_clamp (by omega)]) ?_
  obtain ⟨r1, σ1, r2, τ1, e1, e2, hR1, hq⟩ := st_book hR (xs (n + 1))
  refine zy_cf (WA := zg_W XL ad cA σ) (WB := zg_W ML am cM τ) (WA1 := zg_W XL ad cA σ1) (TA := zg_T XL cA) (TB := zg_T ML cM) (TA1 := zg_T XL cA) (r0 := r1) Z (fun Zc => va_runV (As := [.int (xs (n + 1))]) (rest := []) X (c_X6_book l D V ad cA (xs (n + 1)) σ r1 σ1 e1 H.size) (cwV 1 hts gL_law_X6_book rfl rfl rfl ⟨rfl, zh_X6_book⟩ ⟨Nat.le_of_ble_eq_true rfl, Nat.le_of_ble_eq_true rfl⟩) (zy_pV (ci := 6) Zc xL_ok xk_0 rfl rfl) rfl rfl hl.1 rfl (lv_room (Nat.le_of_ble_eq_true rfl)) dL_law_520 ⟨Nat.le_of_ble_eq_true rfl, Nat.le_of_ble_eq_true rfl⟩) (fun H2 locs Z1 => ?_)
  clear Z
  refine lv_pop hx hb dL_law_523 rfl ?_
  refine lv_aload_n hx hb dL_law_524 rfl (lv_at hl 1 rfl) ?_
  refine lv_aload_n hx hb dL_law_525 rfl (lv_at hl 3 rfl) ?_
  refine lv_iload_n hx hb dL_law_526 rfl (lv_at hl 0 rfl) ?_
  refine lv_iconst (v := 1) hx hb dL_law_527 (by decide) ?_
  refine lv_iadd hx hb dL_law_528 ?_
  refine zz_v (v := nI (n + 1)) (lw_add n 1) ?_
  refine va_sld hx hb hX hbl hbA Z1.2.2.2.1 (vp_in_nI (by omega) (by omega)) dL_law_529 ?_
  refine zz_v (v := xs (n + 1)) (by rw [nI_clamp (by omega)]) ?_
  refine zy_cf (WA := zg_W ML am cM τ) (WB := zg_W XL ad cA σ1) (WA1 := zg_W ML am cM τ1) (TA := zg_T ML cM) (TB := zg_T XL cA) (TA1 := zg_T ML cM) (r0 := r2) Z1 (fun Zc => va_runV (As := [.int (xs (n + 1))]) (rest := []) X (c_X7_book l D V am cM (xs (n + 1)) τ r2 τ1 e2 H2.size) (cwV 1 hts gL_law_X7_book rfl rfl rfl ⟨rfl, zh_X7_book⟩ ⟨Nat.le_of_ble_eq_true rfl, Nat.le_of_ble_eq_true rfl⟩) (zy_pV (ci := 7) Zc mL_ok mk_0 rfl rfl) rfl rfl hl.1 rfl (lv_room (Nat.le_of_ble_eq_true rfl)) dL_law_530 ⟨Nat.le_of_ble_eq_true rfl, Nat.le_of_ble_eq_true rfl⟩) (fun H4 locs Z3 => ?_)
  clear Z1
  refine lv_pop hx hb dL_law_533 rfl ?_
  refine lv_goto (tgt := 1381) hx hb dL_law_534 (by decide) ?_
  exact kk σ1 τ1 hR1 _ _ _ Z3 hl
set_option maxHeartbeats 4000000 in
set_option maxRecDepth 100000 in
theorem law_case11 {p : Program} {l : Launch} {e : Env} {s : State} {m : MethodId} {below : List Frame} {meth : Method} {c : Code} {b L : Nat} {xs : Nat → Int32} (hL : L ≤ 3072) (C0 : lw_At p s m meth c b L xs) (D : va_G) (V : zz_V) (A : Nat → Prop) (hAq : ∀ q, A q → s.heap.size ≤ q) (ad am : Nat → Nat) (cA cM : Nat → ClassId) (σ τ : zg_S) (hR : lw_R σ τ) (n : Nat) (hn : n + 6 ≤ L) (kk : ∀ (σ τ : zg_S), lw_R σ τ → ∀ (H : Heap) (locs : List Loc) (ls : Array Slot), zz_S D V A s (zg_W XL ad cA σ ++ zg_W ML am cM τ) (zg_T XL cA ++ zg_T ML cM) H locs → lv_has ls 4 [(3, .int (nI n)), (2, .ref (am 0)), (1, .ref (ad 0)), (0, .ref b)] → W p l e room_1 s m #[Value.ref b] below meth c H locs 208 13935 (lw_Z below #[Value.ref b] s) (F0 m 1381 ls [])) {H : Heap} {locs : List Loc} {ls : Array Slot} (Z : zz_S D V A s (zg_W XL ad cA σ ++ zg_W ML am cM τ) (zg_T XL cA ++ zg_T ML cM) H locs) (hl : lv_has ls 4 [(3, .int (nI n)), (2, .ref (am 0)), (1, .ref (ad 0)), (0, .ref b)]) : W p l e room_1 s m #[Value.ref b] below meth c H locs 208 13935 (lw_Z below #[Value.ref b] s) (F0 m 537 ls []) := by
  obtain ⟨hx, hb, hr, hml, hown, hts, hX, hbl, hlocks, hgv⟩ := id C0
  have hts := fun w h => hts w (wsL_law_in w h)
  have X : CallFix p m c cL_law 4 s #[Value.ref b] wsL_law RL := ⟨hx, hb, hml, hown, hts⟩
  have hbA : ¬ A b := fun h => absurd (hAq b h) (Nat.not_le.mpr hbl)
  refine lv_aload_n hx hb dL_law_537 rfl (lv_at hl 2 rfl) ?_
  refine lv_aload_n hx hb dL_law_538 rfl (lv_at hl 3 rfl) ?_
  refine lv_iload_n hx hb dL_law_539 rfl (lv_at hl 0 rfl) ?_
  refine lv_iconst (v := 1) hx hb dL_law_540 (by decide) ?_
  refine lv_iadd hx hb dL_law_541 ?_
  refine zz_v (v := nI (n + 1)) (lw_add n 1) ?_
  refine va_sld hx hb hX hbl hbA Z.2.2.2.1 (vp_in_nI (by omega) (by omega)) dL_law_542 ?_
  refine zz_v (v := xs (n + 1)) (by rw [nI_clamp (by omega)]) ?_
  refine lv_aload_n hx hb dL_law_543 rfl (lv_at hl 3 rfl) ?_
  refine lv_iload_n hx hb dL_law_544 rfl (lv_at hl 0 rfl) ?_
  refine lv_iconst (v := 2) hx hb dL_law_545 (by decide) ?_
  refine lv_iadd hx hb dL_law_546 ?_
  refine zz_v (v := nI (n + 2)) (lw_add n 2) ?_
  refine va_sld hx hb hX hbl hbA Z.2.2.2.1 (vp_in_nI (by omega) (by omega)) dL_law_547 ?_
  refine zz_v (v := xs (n + 2)) (by rw [nI_clamp (by omega)]) ?_
  obtain ⟨r1, σ1, r2, τ1, e1, e2, hR1, hq⟩ := st_behind hR (xs (n + 1)) (xs (n + 2))
  refine zy_cf (WA := zg_W XL ad cA σ) (WB := zg_W ML am cM τ) (WA1 := zg_W XL ad cA σ1) (TA := zg_T XL cA) (TB := zg_T ML cM) (TA1 := zg_T XL cA) (r0 := r1) Z (fun Zc => va_runV (As := [.int (xs (n + 1)), .int (xs (n + 2))]) (rest := []) X (c_X6_behind l D V ad cA (xs (n + 1)) (xs (n + 2)) σ r1 σ1 e1 H.size) (cwV 2 hts gL_law_X6_behind rfl rfl rfl ⟨rfl, zh_X6_behind⟩ ⟨Nat.le_of_ble_eq_true rfl, Nat.le_of_ble_eq_true rfl⟩) (zy_pV (ci := 6) Zc xL_ok xk_0 rfl rfl) rfl rfl hl.1 rfl (lv_room (Nat.le_of_ble_eq_true rfl)) dL_law_548 ⟨Nat.le_of_ble_eq_true rfl, Nat.le_of_ble_eq_true rfl⟩) (fun H2 locs Z1 => ?_)
  clear Z
  refine lv_pop hx hb dL_law_551 rfl ?_
  refine lv_aload_n hx hb dL_law_552 rfl (lv_at hl 1 rfl) ?_
  refine lv_aload_n hx hb dL_law_553 rfl (lv_at hl 3 rfl) ?_
  refine lv_iload_n hx hb dL_law_554 rfl (lv_at hl 0 rfl) ?_
  refine lv_iconst (v := 1) hx hb dL_law_555 (by decide) ?_
  refine lv_iadd hx hb dL_law_556 ?_
  refine zz_v (v := nI (n + 1)) (lw_add n 1) ?_
  refine va_sld hx hb hX hbl hbA Z1.2.2.2.1 (vp_in_nI (by omega) (by omega)) dL_law_557 ?_
  refine zz_v (v := xs (n + 1)) (by rw [nI_clamp (by omega)]) ?_
  refine lv_aload_n hx hb dL_law_558 rfl (lv_at hl 3 rfl) ?_
  refine lv_iload_n hx hb dL_law_559 rfl (lv_at hl 0 rfl) ?_
  refine lv_iconst (v := 2) hx hb dL_law_560 (by decide) ?_
  refine lv_iadd hx hb dL_law_561 ?_
  refine zz_v (v := nI (n + 2)) (lw_add n 2) ?_
  refine va_sld hx hb hX hbl hbA Z1.2.2.2.1 (vp_in_nI (by omega) (by omega)) dL_law_562 ?_
  refine zz_v (v := xs (n + 2)) (by rw [nI_clamp (by omega)]) ?_
  refine zy_cf (WA := zg_W ML am cM τ) (WB := zg_W XL ad cA σ1) (WA1 := zg_W ML am cM τ1) (TA := zg_T ML cM) (TB := zg_T XL cA) (TA1 := zg_T ML cM) (r0 := r2) Z1 (fun Zc => va_runV (As := [.int (xs (n + 1)), .int (xs (n + 2))]) (rest := []) X (c_X7_behind l D V am cM (xs (n + 1)) (xs (n + 2)) τ r2 τ1 e2 H2.size) (cwV 2 hts gL_law_X7_behind rfl rfl rfl ⟨rfl, zh_X7_behind⟩ ⟨Nat.le_of_ble_eq_true rfl, Nat.le_of_ble_eq_true rfl⟩) (zy_pV (ci := 7) Zc mL_ok mk_0 rfl rfl) rfl rfl hl.1 rfl (lv_room (Nat.le_of_ble_eq_true rfl)) dL_law_563 ⟨Nat.le_of_ble_eq_true rfl, Nat.le_of_ble_eq_true rfl⟩) (fun H4 locs Z3 => ?_)
  clear Z1
  refine lv_pop hx hb dL_law_566 rfl ?_
  refine lv_goto (tgt := 1381) hx hb dL_law_567 (by decide) ?_
  exact kk σ1 τ1 hR1 _ _ _ Z3 hl
set_option maxHeartbeats 4000000 in
set_option maxRecDepth 100000 in
theorem law_case12 {p : Program} {l : Launch} {e : Env} {s : State} {m : MethodId} {below : List Frame} {meth : Method} {c : Code} {b L : Nat} {xs : Nat → Int32} (hL : L ≤ 3072) (C0 : lw_At p s m meth c b L xs) (D : va_G) (V : zz_V) (A : Nat → Prop) (hAq : ∀ q, A q → s.heap.size ≤ q) (ad am : Nat → Nat) (cA cM : Nat → ClassId) (σ τ : zg_S) (hR : lw_R σ τ) (n : Nat) (hn : n + 6 ≤ L) (kk : ∀ (σ τ : zg_S), lw_R σ τ → ∀ (H : Heap) (locs : List Loc) (ls : Array Slot), zz_S D V A s (zg_W XL ad cA σ ++ zg_W ML am cM τ) (zg_T XL cA ++ zg_T ML cM) H locs → lv_has ls 4 [(3, .int (nI n)), (2, .ref (am 0)), (1, .ref (ad 0)), (0, .ref b)] → W p l e room_1 s m #[Value.ref b] below meth c H locs 208 13935 (lw_Z below #[Value.ref b] s) (F0 m 1381 ls [])) {H : Heap} {locs : List Loc} {ls : Array Slot} (Z : zz_S D V A s (zg_W XL ad cA σ ++ zg_W ML am cM τ) (zg_T XL cA ++ zg_T ML cM) H locs) (hl : lv_has ls 4 [(3, .int (nI n)), (2, .ref (am 0)), (1, .ref (ad 0)), (0, .ref b)]) : W p l e room_1 s m #[Value.ref b] below meth c H locs 208 13935 (lw_Z below #[Value.ref b] s) (F0 m 570 ls []) := by
  obtain ⟨hx, hb, hr, hml, hown, hts, hX, hbl, hlocks, hgv⟩ := id C0
  have hts := fun w h => hts w (wsL_law_in w h)
  have X : CallFix p m c cL_law 4 s #[Value.ref b] wsL_law RL := ⟨hx, hb, hml, hown, hts⟩
  have hbA : ¬ A b := fun h => absurd (hAq b h) (Nat.not_le.mpr hbl)
  refine lv_aload_n hx hb dL_law_570 rfl (lv_at hl 2 rfl) ?_
  refine lv_aload_n hx hb dL_law_571 rfl (lv_at hl 3 rfl) ?_
  refine lv_iload_n hx hb dL_law_572 rfl (lv_at hl 0 rfl) ?_
  refine lv_iconst (v := 1) hx hb dL_law_573 (by decide) ?_
  refine lv_iadd hx hb dL_law_574 ?_
  refine zz_v (v := nI (n + 1)) (lw_add n 1) ?_
  refine va_sld hx hb hX hbl hbA Z.2.2.2.1 (vp_in_nI (by omega) (by omega)) dL_law_575 ?_
  refine zz_v (v := xs (n + 1)) (by rw [nI_clamp (by omega)]) ?_
  refine lv_aload_n hx hb dL_law_576 rfl (lv_at hl 3 rfl) ?_
  refine lv_iload_n hx hb dL_law_577 rfl (lv_at hl 0 rfl) ?_
  refine lv_iconst (v := 2) hx hb dL_law_578 (by decide) ?_
  refine lv_iadd hx hb dL_law_579 ?_
  refine zz_v (v := nI (n + 2)) (lw_add n 2) ?_
  refine va_sld hx hb hX hbl hbA Z.2.2.2.1 (vp_in_nI (by omega) (by omega)) dL_law_580 ?_
  refine zz_v (v := xs (n + 2)) (by rw [nI_clamp (by omega)]) ?_
  obtain ⟨r1, σ1, r2, τ1, e1, e2, hR1, hq⟩ := st_goods hR (xs (n + 1)) (xs (n + 2))
  refine zy_cf (WA := zg_W XL ad cA σ) (WB := zg_W ML am cM τ) (WA1 := zg_W XL ad cA σ1) (TA := zg_T XL cA) (TB := zg_T ML cM) (TA1 := zg_T XL cA) (r0 := r1) Z (fun Zc => va_runV (As := [.int (xs (n + 1)), .int (xs (n + 2))]) (rest := []) X (c_X6_goods l D V ad cA (xs (n + 1)) (xs (n + 2)) σ r1 σ1 e1 H.size) (cwV 2 hts gL_law_X6_goods rfl rfl rfl ⟨rfl, zh_X6_goods⟩ ⟨Nat.le_of_ble_eq_true rfl, Nat.le_of_ble_eq_true rfl⟩) (zy_pV (ci := 6) Zc xL_ok xk_0 rfl rfl) rfl rfl hl.1 rfl (lv_room (Nat.le_of_ble_eq_true rfl)) dL_law_581 ⟨Nat.le_of_ble_eq_true rfl, Nat.le_of_ble_eq_true rfl⟩) (fun H2 locs Z1 => ?_)
  clear Z
  refine lv_pop hx hb dL_law_584 rfl ?_
  refine lv_aload_n hx hb dL_law_585 rfl (lv_at hl 1 rfl) ?_
  refine lv_aload_n hx hb dL_law_586 rfl (lv_at hl 3 rfl) ?_
  refine lv_iload_n hx hb dL_law_587 rfl (lv_at hl 0 rfl) ?_
  refine lv_iconst (v := 1) hx hb dL_law_588 (by decide) ?_
  refine lv_iadd hx hb dL_law_589 ?_
  refine zz_v (v := nI (n + 1)) (lw_add n 1) ?_
  refine va_sld hx hb hX hbl hbA Z1.2.2.2.1 (vp_in_nI (by omega) (by omega)) dL_law_590 ?_
  refine zz_v (v := xs (n + 1)) (by rw [nI_clamp (by omega)]) ?_
  refine lv_aload_n hx hb dL_law_591 rfl (lv_at hl 3 rfl) ?_
  refine lv_iload_n hx hb dL_law_592 rfl (lv_at hl 0 rfl) ?_
  refine lv_iconst (v := 2) hx hb dL_law_593 (by decide) ?_
  refine lv_iadd hx hb dL_law_594 ?_
  refine zz_v (v := nI (n + 2)) (lw_add n 2) ?_
  refine va_sld hx hb hX hbl hbA Z1.2.2.2.1 (vp_in_nI (by omega) (by omega)) dL_law_595 ?_
  refine zz_v (v := xs (n + 2)) (by rw [nI_clamp (by omega)]) ?_
  refine zy_cf (WA := zg_W ML am cM τ) (WB := zg_W XL ad cA σ1) (WA1 := zg_W ML am cM τ1) (TA := zg_T ML cM) (TB := zg_T XL cA) (TA1 := zg_T ML cM) (r0 := r2) Z1 (fun Zc => va_runV (As := [.int (xs (n + 1)), .int (xs (n + 2))]) (rest := []) X (c_X7_goods l D V am cM (xs (n + 1)) (xs (n + 2)) τ r2 τ1 e2 H2.size) (cwV 2 hts gL_law_X7_goods rfl rfl rfl ⟨rfl, zh_X7_goods⟩ ⟨Nat.le_of_ble_eq_true rfl, Nat.le_of_ble_eq_true rfl⟩) (zy_pV (ci := 7) Zc mL_ok mk_0 rfl rfl) rfl rfl hl.1 rfl (lv_room (Nat.le_of_ble_eq_true rfl)) dL_law_596 ⟨Nat.le_of_ble_eq_true rfl, Nat.le_of_ble_eq_true rfl⟩) (fun H4 locs Z3 => ?_)
  clear Z1
  refine lv_pop hx hb dL_law_599 rfl ?_
  refine lv_goto (tgt := 1381) hx hb dL_law_600 (by decide) ?_
  exact kk σ1 τ1 hR1 _ _ _ Z3 hl
set_option maxHeartbeats 4000000 in
set_option maxRecDepth 100000 in
theorem law_case13 {p : Program} {l : Launch} {e : Env} {s : State} {m : MethodId} {below : List Frame} {meth : Method} {c : Code} {b L : Nat} {xs : Nat → Int32} (hL : L ≤ 3072) (C0 : lw_At p s m meth c b L xs) (D : va_G) (V : zz_V) (A : Nat → Prop) (hAq : ∀ q, A q → s.heap.size ≤ q) (ad am : Nat → Nat) (cA cM : Nat → ClassId) (σ τ : zg_S) (hR : lw_R σ τ) (n : Nat) (hn : n + 6 ≤ L) (kk : ∀ (σ τ : zg_S), lw_R σ τ → ∀ (H : Heap) (locs : List Loc) (ls : Array Slot), zz_S D V A s (zg_W XL ad cA σ ++ zg_W ML am cM τ) (zg_T XL cA ++ zg_T ML cM) H locs → lv_has ls 4 [(3, .int (nI n)), (2, .ref (am 0)), (1, .ref (ad 0)), (0, .ref b)] → W p l e room_1 s m #[Value.ref b] below meth c H locs 208 13935 (lw_Z below #[Value.ref b] s) (F0 m 1381 ls [])) {H : Heap} {locs : List Loc} {ls : Array Slot} (Z : zz_S D V A s (zg_W XL ad cA σ ++ zg_W ML am cM τ) (zg_T XL cA ++ zg_T ML cM) H locs) (hl : lv_has ls 4 [(3, .int (nI n)), (2, .ref (am 0)), (1, .ref (ad 0)), (0, .ref b)]) : W p l e room_1 s m #[Value.ref b] below meth c H locs 208 13935 (lw_Z below #[Value.ref b] s) (F0 m 603 ls []) := by
  obtain ⟨hx, hb, hr, hml, hown, hts, hX, hbl, hlocks, hgv⟩ := id C0
  have hts := fun w h => hts w (wsL_law_in w h)
  have X : CallFix p m c cL_law 4 s #[Value.ref b] wsL_law RL := ⟨hx, hb, hml, hown, hts⟩
  have hbA : ¬ A b := fun h => absurd (hAq b h) (Nat.not_le.mpr hbl)
  refine lv_aload_n hx hb dL_law_603 rfl (lv_at hl 2 rfl) ?_
  refine lv_aload_n hx hb dL_law_604 rfl (lv_at hl 3 rfl) ?_
  refine lv_iload_n hx hb dL_law_605 rfl (lv_at hl 0 rfl) ?_
  refine lv_iconst (v := 1) hx hb dL_law_606 (by decide) ?_
  refine lv_iadd hx hb dL_law_607 ?_
  refine zz_v (v := nI (n + 1)) (lw_add n 1) ?_
  refine va_sld hx hb hX hbl hbA Z.2.2.2.1 (vp_in_nI (by omega) (by omega)) dL_law_608 ?_
  refine zz_v (v := xs (n + 1)) (by rw [nI_clamp (by omega)]) ?_
  refine lv_aload_n hx hb dL_law_609 rfl (lv_at hl 3 rfl) ?_
  refine lv_iload_n hx hb dL_law_610 rfl (lv_at hl 0 rfl) ?_
  refine lv_iconst (v := 2) hx hb dL_law_611 (by decide) ?_
  refine lv_iadd hx hb dL_law_612 ?_
  refine zz_v (v := nI (n + 2)) (lw_add n 2) ?_
  refine va_sld hx hb hX hbl hbA Z.2.2.2.1 (vp_in_nI (by omega) (by omega)) dL_law_613 ?_
  refine zz_v (v := xs (n + 2)) (by rw [nI_clamp (by omega)]) ?_
  obtain ⟨r1, σ1, r2, τ1, e1, e2, hR1, hq⟩ := st_best hR (xs (n + 1)) (xs (n + 2))
  refine zy_cf (WA := zg_W XL ad cA σ) (WB := zg_W ML am cM τ) (WA1 := zg_W XL ad cA σ1) (TA := zg_T XL cA) (TB := zg_T ML cM) (TA1 := zg_T XL cA) (r0 := r1) Z (fun Zc => va_runV (As := [.int (xs (n + 1)), .int (xs (n + 2))]) (rest := []) X (c_X6_best l D V ad cA (xs (n + 1)) (xs (n + 2)) σ r1 σ1 e1 H.size) (cwV 2 hts gL_law_X6_best rfl rfl rfl ⟨rfl, zh_X6_best⟩ ⟨Nat.le_of_ble_eq_true rfl, Nat.le_of_ble_eq_true rfl⟩) (zy_pV (ci := 6) Zc xL_ok xk_0 rfl rfl) rfl rfl hl.1 rfl (lv_room (Nat.le_of_ble_eq_true rfl)) dL_law_614 ⟨Nat.le_of_ble_eq_true rfl, Nat.le_of_ble_eq_true rfl⟩) (fun H2 locs Z1 => ?_)
  clear Z
  refine lv_pop hx hb dL_law_617 rfl ?_
  refine lv_aload_n hx hb dL_law_618 rfl (lv_at hl 1 rfl) ?_
  refine lv_aload_n hx hb dL_law_619 rfl (lv_at hl 3 rfl) ?_
  refine lv_iload_n hx hb dL_law_620 rfl (lv_at hl 0 rfl) ?_
  refine lv_iconst (v := 1) hx hb dL_law_621 (by decide) ?_
  refine lv_iadd hx hb dL_law_622 ?_
  refine zz_v (v := nI (n + 1)) (lw_add n 1) ?_
  refine va_sld hx hb hX hbl hbA Z1.2.2.2.1 (vp_in_nI (by omega) (by omega)) dL_law_623 ?_
  refine zz_v (v := xs (n + 1)) (by rw [nI_clamp (by omega)]) ?_
  refine lv_aload_n hx hb dL_law_624 rfl (lv_at hl 3 rfl) ?_
  refine lv_iload_n hx hb dL_law_625 rfl (lv_at hl 0 rfl) ?_
  refine lv_iconst (v := 2) hx hb dL_law_626 (by decide) ?_
  refine lv_iadd hx hb dL_law_627 ?_
  refine zz_v (v := nI (n + 2)) (lw_add n 2) ?_
  refine va_sld hx hb hX hbl hbA Z1.2.2.2.1 (vp_in_nI (by omega) (by omega)) dL_law_628 ?_
  refine zz_v (v := xs (n + 2)) (by rw [nI_clamp (by omega)]) ?_
  refine zy_cf (WA := zg_W ML am cM τ) (WB := zg_W XL ad cA σ1) (WA1 := zg_W ML am cM τ1) (TA := zg_T ML cM) (TB := zg_T XL cA) (TA1 := zg_T ML cM) (r0 := r2) Z1 (fun Zc => va_runV (As := [.int (xs (n + 1)), .int (xs (n + 2))]) (rest := []) X (c_X7_best l D V am cM (xs (n + 1)) (xs (n + 2)) τ r2 τ1 e2 H2.size) (cwV 2 hts gL_law_X7_best rfl rfl rfl ⟨rfl, zh_X7_best⟩ ⟨Nat.le_of_ble_eq_true rfl, Nat.le_of_ble_eq_true rfl⟩) (zy_pV (ci := 7) Zc mL_ok mk_0 rfl rfl) rfl rfl hl.1 rfl (lv_room (Nat.le_of_ble_eq_true rfl)) dL_law_629 ⟨Nat.le_of_ble_eq_true rfl, Nat.le_of_ble_eq_true rfl⟩) (fun H4 locs Z3 => ?_)
  clear Z1
  refine lv_pop hx hb dL_law_632 rfl ?_
  refine lv_goto (tgt := 1381) hx hb dL_law_633 (by decide) ?_
  exact kk σ1 τ1 hR1 _ _ _ Z3 hl
set_option maxHeartbeats 4000000 in
set_option maxRecDepth 100000 in
theorem law_case14 {p : Program} {l : Launch} {e : Env} {s : State} {m : MethodId} {below : List Frame} {meth : Method} {c : Code} {b L : Nat} {xs : Nat → Int32} (hL : L ≤ 3072) (C0 : lw_At p s m meth c b L xs) (D : va_G) (V : zz_V) (A : Nat → Prop) (hAq : ∀ q, A q → s.heap.size ≤ q) (ad am : Nat → Nat) (cA cM : Nat → ClassId) (σ τ : zg_S) (hR : lw_R σ τ) (n : Nat) (hn : n + 6 ≤ L) (kk : ∀ (σ τ : zg_S), lw_R σ τ → ∀ (H : Heap) (locs : List Loc) (ls : Array Slot), zz_S D V A s (zg_W XL ad cA σ ++ zg_W ML am cM τ) (zg_T XL cA ++ zg_T ML cM) H locs → lv_has ls 4 [(3, .int (nI n)), (2, .ref (am 0)), (1, .ref (ad 0)), (0, .ref b)] → W p l e room_1 s m #[Value.ref b] below meth c H locs 208 13935 (lw_Z below #[Value.ref b] s) (F0 m 1381 ls [])) {H : Heap} {locs : List Loc} {ls : Array Slot} (Z : zz_S D V A s (zg_W XL ad cA σ ++ zg_W ML am cM τ) (zg_T XL cA ++ zg_T ML cM) H locs) (hl : lv_has ls 4 [(3, .int (nI n)), (2, .ref (am 0)), (1, .ref (ad 0)), (0, .ref b)]) : W p l e room_1 s m #[Value.ref b] below meth c H locs 208 13935 (lw_Z below #[Value.ref b] s) (F0 m 636 ls []) := by
  obtain ⟨hx, hb, hr, hml, hown, hts, hX, hbl, hlocks, hgv⟩ := id C0
  have hts := fun w h => hts w (wsL_law_in w h)
  have X : CallFix p m c cL_law 4 s #[Value.ref b] wsL_law RL := ⟨hx, hb, hml, hown, hts⟩
  have hbA : ¬ A b := fun h => absurd (hAq b h) (Nat.not_le.mpr hbl)
  refine lv_aload_n hx hb dL_law_636 rfl (lv_at hl 2 rfl) ?_
  refine lv_aload_n hx hb dL_law_637 rfl (lv_at hl 3 rfl) ?_
  refine lv_iload_n hx hb dL_law_638 rfl (lv_at hl 0 rfl) ?_
  refine lv_iconst (v := 1) hx hb dL_law_639 (by decide) ?_
  refine lv_iadd hx hb dL_law_640 ?_
  refine zz_v (v := nI (n + 1)) (lw_add n 1) ?_
  refine va_sld hx hb hX hbl hbA Z.2.2.2.1 (vp_in_nI (by omega) (by omega)) dL_law_641 ?_
  refine zz_v (v := xs (n + 1)) (by rw [nI_clamp (by omega)]) ?_
  refine lv_aload_n hx hb dL_law_642 rfl (lv_at hl 3 rfl) ?_
  refine lv_iload_n hx hb dL_law_643 rfl (lv_at hl 0 rfl) ?_
  refine lv_iconst (v := 2) hx hb dL_law_644 (by decide) ?_
  refine lv_iadd hx hb dL_law_645 ?_
  refine zz_v (v := nI (n + 2)) (lw_add n 2) ?_
  refine va_sld hx hb hX hbl hbA Z.2.2.2.1 (vp_in_nI (by omega) (by omega)) dL_law_646 ?_
  refine zz_v (v := xs (n + 2)) (by rw [nI_clamp (by omega)]) ?_
  obtain ⟨r1, σ1, r2, τ1, e1, e2, hR1, hq⟩ := st_wider hR (xs (n + 1)) (xs (n + 2))
  refine zy_cf (WA := zg_W XL ad cA σ) (WB := zg_W ML am cM τ) (WA1 := zg_W XL ad cA σ1) (TA := zg_T XL cA) (TB := zg_T ML cM) (TA1 := zg_T XL cA) (r0 := r1) Z (fun Zc => va_runV (As := [.int (xs (n + 1)), .int (xs (n + 2))]) (rest := []) X (c_X6_wider l D V ad cA (xs (n + 1)) (xs (n + 2)) σ r1 σ1 e1 H.size) (cwV 2 hts gL_law_X6_wider rfl rfl rfl ⟨rfl, zh_X6_wider⟩ ⟨Nat.le_of_ble_eq_true rfl, Nat.le_of_ble_eq_true rfl⟩) (zy_pV (ci := 6) Zc xL_ok xk_0 rfl rfl) rfl rfl hl.1 rfl (lv_room (Nat.le_of_ble_eq_true rfl)) dL_law_647 ⟨Nat.le_of_ble_eq_true rfl, Nat.le_of_ble_eq_true rfl⟩) (fun H2 locs Z1 => ?_)
  clear Z
  refine lv_pop hx hb dL_law_650 rfl ?_
  refine lv_aload_n hx hb dL_law_651 rfl (lv_at hl 1 rfl) ?_
  refine lv_aload_n hx hb dL_law_652 rfl (lv_at hl 3 rfl) ?_
  refine lv_iload_n hx hb dL_law_653 rfl (lv_at hl 0 rfl) ?_
  refine lv_iconst (v := 1) hx hb dL_law_654 (by decide) ?_
  refine lv_iadd hx hb dL_law_655 ?_
  refine zz_v (v := nI (n + 1)) (lw_add n 1) ?_
  refine va_sld hx hb hX hbl hbA Z1.2.2.2.1 (vp_in_nI (by omega) (by omega)) dL_law_656 ?_
  refine zz_v (v := xs (n + 1)) (by rw [nI_clamp (by omega)]) ?_
  refine lv_aload_n hx hb dL_law_657 rfl (lv_at hl 3 rfl) ?_
  refine lv_iload_n hx hb dL_law_658 rfl (lv_at hl 0 rfl) ?_
  refine lv_iconst (v := 2) hx hb dL_law_659 (by decide) ?_
  refine lv_iadd hx hb dL_law_660 ?_
  refine zz_v (v := nI (n + 2)) (lw_add n 2) ?_
  refine va_sld hx hb hX hbl hbA Z1.2.2.2.1 (vp_in_nI (by omega) (by omega)) dL_law_661 ?_
  refine zz_v (v := xs (n + 2)) (by rw [nI_clamp (by omega)]) ?_
  refine zy_cf (WA := zg_W ML am cM τ) (WB := zg_W XL ad cA σ1) (WA1 := zg_W ML am cM τ1) (TA := zg_T ML cM) (TB := zg_T XL cA) (TA1 := zg_T ML cM) (r0 := r2) Z1 (fun Zc => va_runV (As := [.int (xs (n + 1)), .int (xs (n + 2))]) (rest := []) X (c_X7_wider l D V am cM (xs (n + 1)) (xs (n + 2)) τ r2 τ1 e2 H2.size) (cwV 2 hts gL_law_X7_wider rfl rfl rfl ⟨rfl, zh_X7_wider⟩ ⟨Nat.le_of_ble_eq_true rfl, Nat.le_of_ble_eq_true rfl⟩) (zy_pV (ci := 7) Zc mL_ok mk_0 rfl rfl) rfl rfl hl.1 rfl (lv_room (Nat.le_of_ble_eq_true rfl)) dL_law_662 ⟨Nat.le_of_ble_eq_true rfl, Nat.le_of_ble_eq_true rfl⟩) (fun H4 locs Z3 => ?_)
  clear Z1
  refine lv_pop hx hb dL_law_665 rfl ?_
  refine lv_goto (tgt := 1381) hx hb dL_law_666 (by decide) ?_
  exact kk σ1 τ1 hR1 _ _ _ Z3 hl
set_option maxHeartbeats 4000000 in
set_option maxRecDepth 100000 in
theorem law_case15 {p : Program} {l : Launch} {e : Env} {s : State} {m : MethodId} {below : List Frame} {meth : Method} {c : Code} {b L : Nat} {xs : Nat → Int32} (hL : L ≤ 3072) (C0 : lw_At p s m meth c b L xs) (D : va_G) (V : zz_V) (A : Nat → Prop) (hAq : ∀ q, A q → s.heap.size ≤ q) (ad am : Nat → Nat) (cA cM : Nat → ClassId) (σ τ : zg_S) (hR : lw_R σ τ) (n : Nat) (hn : n + 6 ≤ L) (kk : ∀ (σ τ : zg_S), lw_R σ τ → ∀ (H : Heap) (locs : List Loc) (ls : Array Slot), zz_S D V A s (zg_W XL ad cA σ ++ zg_W ML am cM τ) (zg_T XL cA ++ zg_T ML cM) H locs → lv_has ls 4 [(3, .int (nI n)), (2, .ref (am 0)), (1, .ref (ad 0)), (0, .ref b)] → W p l e room_1 s m #[Value.ref b] below meth c H locs 208 13935 (lw_Z below #[Value.ref b] s) (F0 m 1381 ls [])) {H : Heap} {locs : List Loc} {ls : Array Slot} (Z : zz_S D V A s (zg_W XL ad cA σ ++ zg_W ML am cM τ) (zg_T XL cA ++ zg_T ML cM) H locs) (hl : lv_has ls 4 [(3, .int (nI n)), (2, .ref (am 0)), (1, .ref (ad 0)), (0, .ref b)]) : W p l e room_1 s m #[Value.ref b] below meth c H locs 208 13935 (lw_Z below #[Value.ref b] s) (F0 m 669 ls []) := by
  obtain ⟨hx, hb, hr, hml, hown, hts, hX, hbl, hlocks, hgv⟩ := id C0
  have hts := fun w h => hts w (wsL_law_in w h)
  have X : CallFix p m c cL_law 4 s #[Value.ref b] wsL_law RL := ⟨hx, hb, hml, hown, hts⟩
  have hbA : ¬ A b := fun h => absurd (hAq b h) (Nat.not_le.mpr hbl)
  refine lv_aload_n hx hb dL_law_669 rfl (lv_at hl 2 rfl) ?_
  refine lv_aload_n hx hb dL_law_670 rfl (lv_at hl 3 rfl) ?_
  refine lv_iload_n hx hb dL_law_671 rfl (lv_at hl 0 rfl) ?_
  refine lv_iconst (v := 1) hx hb dL_law_672 (by decide) ?_
  refine lv_iadd hx hb dL_law_673 ?_
  refine zz_v (v := nI (n + 1)) (lw_add n 1) ?_
  refine va_sld hx hb hX hbl hbA Z.2.2.2.1 (vp_in_nI (by omega) (by omega)) dL_law_674 ?_
  refine zz_v (v := xs (n + 1)) (by rw [nI_clamp (by omega)]) ?_
  refine lv_aload_n hx hb dL_law_675 rfl (lv_at hl 3 rfl) ?_
  refine lv_iload_n hx hb dL_law_676 rfl (lv_at hl 0 rfl) ?_
  refine lv_iconst (v := 2) hx hb dL_law_677 (by decide) ?_
  refine lv_iadd hx hb dL_law_678 ?_
  refine zz_v (v := nI (n + 2)) (lw_add n 2) ?_
  refine va_sld hx hb hX hbl hbA Z.2.2.2.1 (vp_in_nI (by omega) (by omega)) dL_law_679 ?_
  refine zz_v (v := xs (n + 2)) (by rw [nI_clamp (by omega)]) ?_
  obtain ⟨r1, σ1, r2, τ1, e1, e2, hR1, hq⟩ := st_shaded hR (xs (n + 1)) (xs (n + 2))
  refine zy_cf (WA := zg_W XL ad cA σ) (WB := zg_W ML am cM τ) (WA1 := zg_W XL ad cA σ1) (TA := zg_T XL cA) (TB := zg_T ML cM) (TA1 := zg_T XL cA) (r0 := r1) Z (fun Zc => va_runV (As := [.int (xs (n + 1)), .int (xs (n + 2))]) (rest := []) X (c_X6_shaded l D V ad cA (xs (n + 1)) (xs (n + 2)) σ r1 σ1 e1 H.size) (cwV 2 hts gL_law_X6_shaded rfl rfl rfl ⟨rfl, zh_X6_shaded⟩ ⟨Nat.le_of_ble_eq_true rfl, Nat.le_of_ble_eq_true rfl⟩) (zy_pV (ci := 6) Zc xL_ok xk_0 rfl rfl) rfl rfl hl.1 rfl (lv_room (Nat.le_of_ble_eq_true rfl)) dL_law_680 ⟨Nat.le_of_ble_eq_true rfl, Nat.le_of_ble_eq_true rfl⟩) (fun H2 locs Z1 => ?_)
  clear Z
  refine lv_pop hx hb dL_law_683 rfl ?_
  refine lv_aload_n hx hb dL_law_684 rfl (lv_at hl 1 rfl) ?_
  refine lv_aload_n hx hb dL_law_685 rfl (lv_at hl 3 rfl) ?_
  refine lv_iload_n hx hb dL_law_686 rfl (lv_at hl 0 rfl) ?_
  refine lv_iconst (v := 1) hx hb dL_law_687 (by decide) ?_
  refine lv_iadd hx hb dL_law_688 ?_
  refine zz_v (v := nI (n + 1)) (lw_add n 1) ?_
  refine va_sld hx hb hX hbl hbA Z1.2.2.2.1 (vp_in_nI (by omega) (by omega)) dL_law_689 ?_
  refine zz_v (v := xs (n + 1)) (by rw [nI_clamp (by omega)]) ?_
  refine lv_aload_n hx hb dL_law_690 rfl (lv_at hl 3 rfl) ?_
  refine lv_iload_n hx hb dL_law_691 rfl (lv_at hl 0 rfl) ?_
  refine lv_iconst (v := 2) hx hb dL_law_692 (by decide) ?_
  refine lv_iadd hx hb dL_law_693 ?_
  refine zz_v (v := nI (n + 2)) (lw_add n 2) ?_
  refine va_sld hx hb hX hbl hbA Z1.2.2.2.1 (vp_in_nI (by omega) (by omega)) dL_law_694 ?_
  refine zz_v (v := xs (n + 2)) (by rw [nI_clamp (by omega)]) ?_
  refine zy_cf (WA := zg_W ML am cM τ) (WB := zg_W XL ad cA σ1) (WA1 := zg_W ML am cM τ1) (TA := zg_T ML cM) (TB := zg_T XL cA) (TA1 := zg_T ML cM) (r0 := r2) Z1 (fun Zc => va_runV (As := [.int (xs (n + 1)), .int (xs (n + 2))]) (rest := []) X (c_X7_shaded l D V am cM (xs (n + 1)) (xs (n + 2)) τ r2 τ1 e2 H2.size) (cwV 2 hts gL_law_X7_shaded rfl rfl rfl ⟨rfl, zh_X7_shaded⟩ ⟨Nat.le_of_ble_eq_true rfl, Nat.le_of_ble_eq_true rfl⟩) (zy_pV (ci := 7) Zc mL_ok mk_0 rfl rfl) rfl rfl hl.1 rfl (lv_room (Nat.le_of_ble_eq_true rfl)) dL_law_695 ⟨Nat.le_of_ble_eq_true rfl, Nat.le_of_ble_eq_true rfl⟩) (fun H4 locs Z3 => ?_)
  clear Z1
  refine lv_pop hx hb dL_law_698 rfl ?_
  refine lv_goto (tgt := 1381) hx hb dL_law_699 (by decide) ?_
  exact kk σ1 τ1 hR1 _ _ _ Z3 hl
set_option maxHeartbeats 4000000 in
set_option maxRecDepth 100000 in
theorem law_case16 {p : Program} {l : Launch} {e : Env} {s : State} {m : MethodId} {below : List Frame} {meth : Method} {c : Code} {b L : Nat} {xs : Nat → Int32} (hL : L ≤ 3072) (C0 : lw_At p s m meth c b L xs) (D : va_G) (V : zz_V) (A : Nat → Prop) (hAq : ∀ q, A q → s.heap.size ≤ q) (ad am : Nat → Nat) (cA cM : Nat → ClassId) (σ τ : zg_S) (hR : lw_R σ τ) (n : Nat) (hn : n + 6 ≤ L) (kk : ∀ (σ τ : zg_S), lw_R σ τ → ∀ (H : Heap) (locs : List Loc) (ls : Array Slot), zz_S D V A s (zg_W XL ad cA σ ++ zg_W ML am cM τ) (zg_T XL cA ++ zg_T ML cM) H locs → lv_has ls 4 [(3, .int (nI n)), (2, .ref (am 0)), (1, .ref (ad 0)), (0, .ref b)] → W p l e room_1 s m #[Value.ref b] below meth c H locs 208 13935 (lw_Z below #[Value.ref b] s) (F0 m 1381 ls [])) {H : Heap} {locs : List Loc} {ls : Array Slot} (Z : zz_S D V A s (zg_W XL ad cA σ ++ zg_W ML am cM τ) (zg_T XL cA ++ zg_T ML cM) H locs) (hl : lv_has ls 4 [(3, .int (nI n)), (2, .ref (am 0)), (1, .ref (ad 0)), (0, .ref b)]) : W p l e room_1 s m #[Value.ref b] below meth c H locs 208 13935 (lw_Z below #[Value.ref b] s) (F0 m 702 ls []) := by
  obtain ⟨hx, hb, hr, hml, hown, hts, hX, hbl, hlocks, hgv⟩ := id C0
  have hts := fun w h => hts w (wsL_law_in w h)
  have X : CallFix p m c cL_law 4 s #[Value.ref b] wsL_law RL := ⟨hx, hb, hml, hown, hts⟩
  have hbA : ¬ A b := fun h => absurd (hAq b h) (Nat.not_le.mpr hbl)
  refine lv_aload_n hx hb dL_law_702 rfl (lv_at hl 2 rfl) ?_
  refine lv_aload_n hx hb dL_law_703 rfl (lv_at hl 3 rfl) ?_
  refine lv_iload_n hx hb dL_law_704 rfl (lv_at hl 0 rfl) ?_
  refine lv_iconst (v := 1) hx hb dL_law_705 (by decide) ?_
  refine lv_iadd hx hb dL_law_706 ?_
  refine zz_v (v := nI (n + 1)) (lw_add n 1) ?_
  refine va_sld hx hb hX hbl hbA Z.2.2.2.1 (vp_in_nI (by omega) (by omega)) dL_law_707 ?_
  refine zz_v (v := xs (n + 1)) (by rw [nI_clamp (by omega)]) ?_
  refine lv_aload_n hx hb dL_law_708 rfl (lv_at hl 3 rfl) ?_
  refine lv_iload_n hx hb dL_law_709 rfl (lv_at hl 0 rfl) ?_
  refine lv_iconst (v := 2) hx hb dL_law_710 (by decide) ?_
  refine lv_iadd hx hb dL_law_711 ?_
  refine zz_v (v := nI (n + 2)) (lw_add n 2) ?_
  refine va_sld hx hb hX hbl hbA Z.2.2.2.1 (vp_in_nI (by omega) (by omega)) dL_law_712 ?_
  refine zz_v (v := xs (n + 2)) (by rw [nI_clamp (by omega)]) ?_
  obtain ⟨r1, σ1, r2, τ1, e1, e2, hR1, hq⟩ := st_without hR (xs (n + 1)) (xs (n + 2))
  refine zy_cf (WA := zg_W XL ad cA σ) (WB := zg_W ML am cM τ) (WA1 := zg_W XL ad cA σ1) (TA := zg_T XL cA) (TB := zg_T ML cM) (TA1 := zg_T XL cA) (r0 := r1) Z (fun Zc => va_runV (As := [.int (xs (n + 1)), .int (xs (n + 2))]) (rest := []) X (c_X6_without l D V ad cA (xs (n + 1)) (xs (n + 2)) σ r1 σ1 e1 H.size) (cwV 2 hts gL_law_X6_without rfl rfl rfl ⟨rfl, zh_X6_without⟩ ⟨Nat.le_of_ble_eq_true rfl, Nat.le_of_ble_eq_true rfl⟩) (zy_pV (ci := 6) Zc xL_ok xk_0 rfl rfl) rfl rfl hl.1 rfl (lv_room (Nat.le_of_ble_eq_true rfl)) dL_law_713 ⟨Nat.le_of_ble_eq_true rfl, Nat.le_of_ble_eq_true rfl⟩) (fun H2 locs Z1 => ?_)
  clear Z
  refine lv_pop hx hb dL_law_716 rfl ?_
  refine lv_aload_n hx hb dL_law_717 rfl (lv_at hl 1 rfl) ?_
  refine lv_aload_n hx hb dL_law_718 rfl (lv_at hl 3 rfl) ?_
  refine lv_iload_n hx hb dL_law_719 rfl (lv_at hl 0 rfl) ?_
  refine lv_iconst (v := 1) hx hb dL_law_720 (by decide) ?_
  refine lv_iadd hx hb dL_law_721 ?_
  refine zz_v (v := nI (n + 1)) (lw_add n 1) ?_
  refine va_sld hx hb hX hbl hbA Z1.2.2.2.1 (vp_in_nI (by omega) (by omega)) dL_law_722 ?_
  refine zz_v (v := xs (n + 1)) (by rw [nI_clamp (by omega)]) ?_
  refine lv_aload_n hx hb dL_law_723 rfl (lv_at hl 3 rfl) ?_
  refine lv_iload_n hx hb dL_law_724 rfl (lv_at hl 0 rfl) ?_
  refine lv_iconst (v := 2) hx hb dL_law_725 (by decide) ?_
  refine lv_iadd hx hb dL_law_726 ?_
  refine zz_v (v := nI (n + 2)) (lw_add n 2) ?_
  refine va_sld hx hb hX hbl hbA Z1.2.2.2.1 (vp_in_nI (by omega) (by omega)) dL_law_727 ?_
  refine zz_v (v := xs (n + 2)) (by rw [nI_clamp (by omega)]) ?_
  refine zy_cf (WA := zg_W ML am cM τ) (WB := zg_W XL ad cA σ1) (WA1 := zg_W ML am cM τ1) (TA := zg_T ML cM) (TB := zg_T XL cA) (TA1 := zg_T ML cM) (r0 := r2) Z1 (fun Zc => va_runV (As := [.int (xs (n + 1)), .int (xs (n + 2))]) (rest := []) X (c_X7_without l D V am cM (xs (n + 1)) (xs (n + 2)) τ r2 τ1 e2 H2.size) (cwV 2 hts gL_law_X7_without rfl rfl rfl ⟨rfl, zh_X7_without⟩ ⟨Nat.le_of_ble_eq_true rfl, Nat.le_of_ble_eq_true rfl⟩) (zy_pV (ci := 7) Zc mL_ok mk_0 rfl rfl) rfl rfl hl.1 rfl (lv_room (Nat.le_of_ble_eq_true rfl)) dL_law_728 ⟨Nat.le_of_ble_eq_true rfl, Nat.le_of_ble_eq_true rfl⟩) (fun H4 locs Z3 => ?_)
  clear Z1
  refine lv_pop hx hb dL_law_731 rfl ?_
  refine lv_goto (tgt := 1381) hx hb dL_law_732 (by decide) ?_
  exact kk σ1 τ1 hR1 _ _ _ Z3 hl
set_option maxHeartbeats 4000000 in
set_option maxRecDepth 100000 in
theorem law_case17 {p : Program} {l : Launch} {e : Env} {s : State} {m : MethodId} {below : List Frame} {meth : Method} {c : Code} {b L : Nat} {xs : Nat → Int32} (hL : L ≤ 3072) (C0 : lw_At p s m meth c b L xs) (D : va_G) (V : zz_V) (A : Nat → Prop) (hAq : ∀ q, A q → s.heap.size ≤ q) (ad am : Nat → Nat) (cA cM : Nat → ClassId) (σ τ : zg_S) (hR : lw_R σ τ) (n : Nat) (hn : n + 6 ≤ L) (kk : ∀ (σ τ : zg_S), lw_R σ τ → ∀ (H : Heap) (locs : List Loc) (ls : Array Slot), zz_S D V A s (zg_W XL ad cA σ ++ zg_W ML am cM τ) (zg_T XL cA ++ zg_T ML cM) H locs → lv_has ls 4 [(3, .int (nI n)), (2, .ref (am 0)), (1, .ref (ad 0)), (0, .ref b)] → W p l e room_1 s m #[Value.ref b] below meth c H locs 208 13935 (lw_Z below #[Value.ref b] s) (F0 m 1381 ls [])) {H : Heap} {locs : List Loc} {ls : Array Slot} (Z : zz_S D V A s (zg_W XL ad cA σ ++ zg_W ML am cM τ) (zg_T XL cA ++ zg_T ML cM) H locs) (hl : lv_has ls 4 [(3, .int (nI n)), (2, .ref (am 0)), (1, .ref (ad 0)), (0, .ref b)]) : W p l e room_1 s m #[Value.ref b] below meth c H locs 208 13935 (lw_Z below #[Value.ref b] s) (F0 m 735 ls []) := by
  obtain ⟨hx, hb, hr, hml, hown, hts, hX, hbl, hlocks, hgv⟩ := id C0
  have hts := fun w h => hts w (wsL_law_in w h)
  have X : CallFix p m c cL_law 4 s #[Value.ref b] wsL_law RL := ⟨hx, hb, hml, hown, hts⟩
  have hbA : ¬ A b := fun h => absurd (hAq b h) (Nat.not_le.mpr hbl)
  refine lv_aload_n hx hb dL_law_735 rfl (lv_at hl 2 rfl) ?_
  refine lv_aload_n hx hb dL_law_736 rfl (lv_at hl 3 rfl) ?_
  refine lv_iload_n hx hb dL_law_737 rfl (lv_at hl 0 rfl) ?_
  refine lv_iconst (v := 1) hx hb dL_law_738 (by decide) ?_
  refine lv_iadd hx hb dL_law_739 ?_
  refine zz_v (v := nI (n + 1)) (lw_add n 1) ?_
  refine va_sld hx hb hX hbl hbA Z.2.2.2.1 (vp_in_nI (by omega) (by omega)) dL_law_740 ?_
  refine zz_v (v := xs (n + 1)) (by rw [nI_clamp (by omega)]) ?_
  refine lv_aload_n hx hb dL_law_741 rfl (lv_at hl 3 rfl) ?_
  refine lv_iload_n hx hb dL_law_742 rfl (lv_at hl 0 rfl) ?_
  refine lv_iconst (v := 2) hx hb dL_law_743 (by decide) ?_
  refine lv_iadd hx hb dL_law_744 ?_
  refine zz_v (v := nI (n + 2)) (lw_add n 2) ?_
  refine va_sld hx hb hX hbl hbA Z.2.2.2.1 (vp_in_nI (by omega) (by omega)) dL_law_745 ?_
  refine zz_v (v := xs (n + 2)) (by rw [nI_clamp (by omega)]) ?_
  refine lv_aload_n hx hb dL_law_746 rfl (lv_at hl 3 rfl) ?_
  refine lv_iload_n hx hb dL_law_747 rfl (lv_at hl 0 rfl) ?_
  refine lv_iconst (v := 3) hx hb dL_law_748 (by decide) ?_
  refine lv_iadd hx hb dL_law_749 ?_
  refine zz_v (v := nI (n + 3)) (lw_add n 3) ?_
  refine va_sld hx hb hX hbl hbA Z.2.2.2.1 (vp_in_nI (by omega) (by omega)) dL_law_750 ?_
  refine zz_v (v := xs (n + 3)) (by rw [nI_clamp (by omega)]) ?_
  obtain ⟨r1, σ1, r2, τ1, e1, e2, hR1, hq⟩ := st_whose hR (xs (n + 1)) (xs (n + 2)) (xs (n + 3))
  refine zy_cf (WA := zg_W XL ad cA σ) (WB := zg_W ML am cM τ) (WA1 := zg_W XL ad cA σ1) (TA := zg_T XL cA) (TB := zg_T ML cM) (TA1 := zg_T XL cA) (r0 := r1) Z (fun Zc => va_runV (As := [.int (xs (n + 1)), .int (xs (n + 2)), .int (xs (n + 3))]) (rest := []) X (c_X6_whose l D V ad cA (xs (n + 1)) (xs (n + 2)) (xs (n + 3)) σ r1 σ1 e1 H.size) (cwV 3 hts gL_law_X6_whose rfl rfl rfl ⟨rfl, zh_X6_whose⟩ ⟨Nat.le_of_ble_eq_true rfl, Nat.le_of_ble_eq_true rfl⟩) (zy_pV (ci := 6) Zc xL_ok xk_0 rfl rfl) rfl rfl hl.1 rfl (lv_room (Nat.le_of_ble_eq_true rfl)) dL_law_751 ⟨Nat.le_of_ble_eq_true rfl, Nat.le_of_ble_eq_true rfl⟩) (fun H2 locs Z1 => ?_)
  clear Z
  refine lv_pop hx hb dL_law_754 rfl ?_
  refine lv_aload_n hx hb dL_law_755 rfl (lv_at hl 1 rfl) ?_
  refine lv_aload_n hx hb dL_law_756 rfl (lv_at hl 3 rfl) ?_
  refine lv_iload_n hx hb dL_law_757 rfl (lv_at hl 0 rfl) ?_
  refine lv_iconst (v := 1) hx hb dL_law_758 (by decide) ?_
  refine lv_iadd hx hb dL_law_759 ?_
  refine zz_v (v := nI (n + 1)) (lw_add n 1) ?_
  refine va_sld hx hb hX hbl hbA Z1.2.2.2.1 (vp_in_nI (by omega) (by omega)) dL_law_760 ?_
  refine zz_v (v := xs (n + 1)) (by rw [nI_clamp (by omega)]) ?_
  refine lv_aload_n hx hb dL_law_761 rfl (lv_at hl 3 rfl) ?_
  refine lv_iload_n hx hb dL_law_762 rfl (lv_at hl 0 rfl) ?_
  refine lv_iconst (v := 2) hx hb dL_law_763 (by decide) ?_
  refine lv_iadd hx hb dL_law_764 ?_
  refine zz_v (v := nI (n + 2)) (lw_add n 2) ?_
  refine va_sld hx hb hX hbl hbA Z1.2.2.2.1 (vp_in_nI (by omega) (by omega)) dL_law_765 ?_
  refine zz_v (v := xs (n + 2)) (by rw [nI_clamp (by omega)]) ?_
  refine lv_aload_n hx hb dL_law_766 rfl (lv_at hl 3 rfl) ?_
  refine lv_iload_n hx hb dL_law_767 rfl (lv_at hl 0 rfl) ?_
  refine lv_iconst (v := 3) hx hb dL_law_768 (by decide) ?_
  refine lv_iadd hx hb dL_law_769 ?_
  refine zz_v (v := nI (n + 3)) (lw_add n 3) ?_
  refine va_sld hx hb hX hbl hbA Z1.2.2.2.1 (vp_in_nI (by omega) (by omega)) dL_law_770 ?_
  refine zz_v (v := xs (n + 3)) (by rw [nI_clamp (by omega)]) ?_
  refine zy_cf (WA := zg_W ML am cM τ) (WB := zg_W XL ad cA σ1) (WA1 := zg_W ML am cM τ1) (TA := zg_T ML cM) (TB := zg_T XL cA) (TA1 := zg_T ML cM) (r0 := r2) Z1 (fun Zc => va_runV (As := [.int (xs (n + 1)), .int (xs (n + 2)), .int (xs (n + 3))]) (rest := []) X (c_X7_whose l D V am cM (xs (n + 1)) (xs (n + 2)) (xs (n + 3)) τ r2 τ1 e2 H2.size) (cwV 3 hts gL_law_X7_whose rfl rfl rfl ⟨rfl, zh_X7_whose⟩ ⟨Nat.le_of_ble_eq_true rfl, Nat.le_of_ble_eq_true rfl⟩) (zy_pV (ci := 7) Zc mL_ok mk_0 rfl rfl) rfl rfl hl.1 rfl (lv_room (Nat.le_of_ble_eq_true rfl)) dL_law_771 ⟨Nat.le_of_ble_eq_true rfl, Nat.le_of_ble_eq_true rfl⟩) (fun H4 locs Z3 => ?_)
  clear Z1
  refine lv_pop hx hb dL_law_774 rfl ?_
  refine lv_goto (tgt := 1381) hx hb dL_law_775 (by decide) ?_
  exact kk σ1 τ1 hR1 _ _ _ Z3 hl
set_option maxHeartbeats 4000000 in
set_option maxRecDepth 100000 in
theorem law_case18 {p : Program} {l : Launch} {e : Env} {s : State} {m : MethodId} {below : List Frame} {meth : Method} {c : Code} {b L : Nat} {xs : Nat → Int32} (hL : L ≤ 3072) (C0 : lw_At p s m meth c b L xs) (D : va_G) (V : zz_V) (A : Nat → Prop) (hAq : ∀ q, A q → s.heap.size ≤ q) (ad am : Nat → Nat) (cA cM : Nat → ClassId) (σ τ : zg_S) (hR : lw_R σ τ) (n : Nat) (hn : n + 6 ≤ L) (kk : ∀ (σ τ : zg_S), lw_R σ τ → ∀ (H : Heap) (locs : List Loc) (ls : Array Slot), zz_S D V A s (zg_W XL ad cA σ ++ zg_W ML am cM τ) (zg_T XL cA ++ zg_T ML cM) H locs → lv_has ls 4 [(3, .int (nI n)), (2, .ref (am 0)), (1, .ref (ad 0)), (0, .ref b)] → W p l e room_1 s m #[Value.ref b] below meth c H locs 208 13935 (lw_Z below #[Value.ref b] s) (F0 m 1381 ls [])) {H : Heap} {locs : List Loc} {ls : Array Slot} (Z : zz_S D V A s (zg_W XL ad cA σ ++ zg_W ML am cM τ) (zg_T XL cA ++ zg_T ML cM) H locs) (hl : lv_has ls 4 [(3, .int (nI n)), (2, .ref (am 0)), (1, .ref (ad 0)), (0, .ref b)]) : W p l e room_1 s m #[Value.ref b] below meth c H locs 208 13935 (lw_Z below #[Value.ref b] s) (F0 m 778 ls []) := by
  obtain ⟨hx, hb, hr, hml, hown, hts, hX, hbl, hlocks, hgv⟩ := id C0
  have hts := fun w h => hts w (wsL_law_in w h)
  have X : CallFix p m c cL_law 4 s #[Value.ref b] wsL_law RL := ⟨hx, hb, hml, hown, hts⟩
  have hbA : ¬ A b := fun h => absurd (hAq b h) (Nat.not_le.mpr hbl)
  refine lv_aload_n hx hb dL_law_778 rfl (lv_at hl 2 rfl) ?_
  obtain ⟨r1, σ1, r2, τ1, e1, e2, hR1, hq⟩ := st_fee hR 
  refine zy_cf (WA := zg_W XL ad cA σ) (WB := zg_W ML am cM τ) (WA1 := zg_W XL ad cA σ1) (TA := zg_T XL cA) (TB := zg_T ML cM) (TA1 := zg_T XL cA) (r0 := r1) Z (fun Zc => va_runV (As := []) (rest := []) X (c_X6_fee l D V ad cA  σ r1 σ1 e1 H.size) (cwV 0 hts gL_law_X6_fee rfl rfl rfl ⟨rfl, zh_X6_fee⟩ ⟨Nat.le_of_ble_eq_true rfl, Nat.le_of_ble_eq_true rfl⟩) (zy_pV (ci := 6) Zc xL_ok xk_0 rfl rfl) rfl rfl hl.1 rfl (lv_room (Nat.le_of_ble_eq_true rfl)) dL_law_779 ⟨Nat.le_of_ble_eq_true rfl, Nat.le_of_ble_eq_true rfl⟩) (fun H2 locs Z1 => ?_)
  clear Z
  refine lv_pop hx hb dL_law_782 rfl ?_
  refine lv_aload_n hx hb dL_law_783 rfl (lv_at hl 1 rfl) ?_
  refine zy_cf (WA := zg_W ML am cM τ) (WB := zg_W XL ad cA σ1) (WA1 := zg_W ML am cM τ1) (TA := zg_T ML cM) (TB := zg_T XL cA) (TA1 := zg_T ML cM) (r0 := r2) Z1 (fun Zc => va_runV (As := []) (rest := []) X (c_X7_fee l D V am cM  τ r2 τ1 e2 H2.size) (cwV 0 hts gL_law_X7_fee rfl rfl rfl ⟨rfl, zh_X7_fee⟩ ⟨Nat.le_of_ble_eq_true rfl, Nat.le_of_ble_eq_true rfl⟩) (zy_pV (ci := 7) Zc mL_ok mk_0 rfl rfl) rfl rfl hl.1 rfl (lv_room (Nat.le_of_ble_eq_true rfl)) dL_law_784 ⟨Nat.le_of_ble_eq_true rfl, Nat.le_of_ble_eq_true rfl⟩) (fun H4 locs Z3 => ?_)
  clear Z1
  refine lv_pop hx hb dL_law_787 rfl ?_
  refine lv_goto (tgt := 1381) hx hb dL_law_788 (by decide) ?_
  exact kk σ1 τ1 hR1 _ _ _ Z3 hl
set_option maxHeartbeats 4000000 in
set_option maxRecDepth 100000 in
theorem law_case19 {p : Program} {l : Launch} {e : Env} {s : State} {m : MethodId} {below : List Frame} {meth : Method} {c : Code} {b L : Nat} {xs : Nat → Int32} (hL : L ≤ 3072) (C0 : lw_At p s m meth c b L xs) (D : va_G) (V : zz_V) (A : Nat → Prop) (hAq : ∀ q, A q → s.heap.size ≤ q) (ad am : Nat → Nat) (cA cM : Nat → ClassId) (σ τ : zg_S) (hR : lw_R σ τ) (n : Nat) (hn : n + 6 ≤ L) (kk : ∀ (σ τ : zg_S), lw_R σ τ → ∀ (H : Heap) (locs : List Loc) (ls : Array Slot), zz_S D V A s (zg_W XL ad cA σ ++ zg_W ML am cM τ) (zg_T XL cA ++ zg_T ML cM) H locs → lv_has ls 4 [(3, .int (nI n)), (2, .ref (am 0)), (1, .ref (ad 0)), (0, .ref b)] → W p l e room_1 s m #[Value.ref b] below meth c H locs 208 13935 (lw_Z below #[Value.ref b] s) (F0 m 1381 ls [])) {H : Heap} {locs : List Loc} {ls : Array Slot} (Z : zz_S D V A s (zg_W XL ad cA σ ++ zg_W ML am cM τ) (zg_T XL cA ++ zg_T ML cM) H locs) (hl : lv_has ls 4 [(3, .int (nI n)), (2, .ref (am 0)), (1, .ref (ad 0)), (0, .ref b)]) : W p l e room_1 s m #[Value.ref b] below meth c H locs 208 13935 (lw_Z below #[Value.ref b] s) (F0 m 791 ls []) := by
  obtain ⟨hx, hb, hr, hml, hown, hts, hX, hbl, hlocks, hgv⟩ := id C0
  have hts := fun w h => hts w (wsL_law_in w h)
  have X : CallFix p m c cL_law 4 s #[Value.ref b] wsL_law RL := ⟨hx, hb, hml, hown, hts⟩
  have hbA : ¬ A b := fun h => absurd (hAq b h) (Nat.not_le.mpr hbl)
  refine lv_aload_n hx hb dL_law_791 rfl (lv_at hl 2 rfl) ?_
  refine lv_aload_n hx hb dL_law_792 rfl (lv_at hl 3 rfl) ?_
  refine lv_iload_n hx hb dL_law_793 rfl (lv_at hl 0 rfl) ?_
  refine lv_iconst (v := 1) hx hb dL_law_794 (by decide) ?_
  refine lv_iadd hx hb dL_law_795 ?_
  refine zz_v (v := nI (n + 1)) (lw_add n 1) ?_
  refine va_sld hx hb hX hbl hbA Z.2.2.2.1 (vp_in_nI (by omega) (by omega)) dL_law_796 ?_
  refine zz_v (v := xs (n + 1)) (by rw [nI_clamp (by omega)]) ?_
  obtain ⟨r1, σ1, r2, τ1, e1, e2, hR1, hq⟩ := st_fine hR (xs (n + 1))
  refine zy_cf (WA := zg_W XL ad cA σ) (WB := zg_W ML am cM τ) (WA1 := zg_W XL ad cA σ1) (TA := zg_T XL cA) (TB := zg_T ML cM) (TA1 := zg_T XL cA) (r0 := r1) Z (fun Zc => va_runV (As := [.int (xs (n + 1))]) (rest := []) X (c_X6_fine l D V ad cA (xs (n + 1)) σ r1 σ1 e1 H.size) (cwV 1 hts gL_law_X6_fine rfl rfl rfl ⟨rfl, zh_X6_fine⟩ ⟨Nat.le_of_ble_eq_true rfl, Nat.le_of_ble_eq_true rfl⟩) (zy_pV (ci := 6) Zc xL_ok xk_0 rfl rfl) rfl rfl hl.1 rfl (lv_room (Nat.le_of_ble_eq_true rfl)) dL_law_797 ⟨Nat.le_of_ble_eq_true rfl, Nat.le_of_ble_eq_true rfl⟩) (fun H2 locs Z1 => ?_)
  clear Z
  refine lv_pop hx hb dL_law_800 rfl ?_
  refine lv_aload_n hx hb dL_law_801 rfl (lv_at hl 1 rfl) ?_
  refine lv_aload_n hx hb dL_law_802 rfl (lv_at hl 3 rfl) ?_
  refine lv_iload_n hx hb dL_law_803 rfl (lv_at hl 0 rfl) ?_
  refine lv_iconst (v := 1) hx hb dL_law_804 (by decide) ?_
  refine lv_iadd hx hb dL_law_805 ?_
  refine zz_v (v := nI (n + 1)) (lw_add n 1) ?_
  refine va_sld hx hb hX hbl hbA Z1.2.2.2.1 (vp_in_nI (by omega) (by omega)) dL_law_806 ?_
  refine zz_v (v := xs (n + 1)) (by rw [nI_clamp (by omega)]) ?_
  refine zy_cf (WA := zg_W ML am cM τ) (WB := zg_W XL ad cA σ1) (WA1 := zg_W ML am cM τ1) (TA := zg_T ML cM) (TB := zg_T XL cA) (TA1 := zg_T ML cM) (r0 := r2) Z1 (fun Zc => va_runV (As := [.int (xs (n + 1))]) (rest := []) X (c_X7_fine l D V am cM (xs (n + 1)) τ r2 τ1 e2 H2.size) (cwV 1 hts gL_law_X7_fine rfl rfl rfl ⟨rfl, zh_X7_fine⟩ ⟨Nat.le_of_ble_eq_true rfl, Nat.le_of_ble_eq_true rfl⟩) (zy_pV (ci := 7) Zc mL_ok mk_0 rfl rfl) rfl rfl hl.1 rfl (lv_room (Nat.le_of_ble_eq_true rfl)) dL_law_807 ⟨Nat.le_of_ble_eq_true rfl, Nat.le_of_ble_eq_true rfl⟩) (fun H4 locs Z3 => ?_)
  clear Z1
  refine lv_pop hx hb dL_law_810 rfl ?_
  refine lv_goto (tgt := 1381) hx hb dL_law_811 (by decide) ?_
  exact kk σ1 τ1 hR1 _ _ _ Z3 hl
set_option maxHeartbeats 4000000 in
set_option maxRecDepth 100000 in
theorem law_case20 {p : Program} {l : Launch} {e : Env} {s : State} {m : MethodId} {below : List Frame} {meth : Method} {c : Code} {b L : Nat} {xs : Nat → Int32} (hL : L ≤ 3072) (C0 : lw_At p s m meth c b L xs) (D : va_G) (V : zz_V) (A : Nat → Prop) (hAq : ∀ q, A q → s.heap.size ≤ q) (ad am : Nat → Nat) (cA cM : Nat → ClassId) (σ τ : zg_S) (hR : lw_R σ τ) (n : Nat) (hn : n + 6 ≤ L) (kk : ∀ (σ τ : zg_S), lw_R σ τ → ∀ (H : Heap) (locs : List Loc) (ls : Array Slot), zz_S D V A s (zg_W XL ad cA σ ++ zg_W ML am cM τ) (zg_T XL cA ++ zg_T ML cM) H locs → lv_has ls 4 [(3, .int (nI n)), (2, .ref (am 0)), (1, .ref (ad 0)), (0, .ref b)] → W p l e room_1 s m #[Value.ref b] below meth c H locs 208 13935 (lw_Z below #[Value.ref b] s) (F0 m 1381 ls [])) {H : Heap} {locs : List Loc} {ls : Array Slot} (Z : zz_S D V A s (zg_W XL ad cA σ ++ zg_W ML am cM τ) (zg_T XL cA ++ zg_T ML cM) H locs) (hl : lv_has ls 4 [(3, .int (nI n)), (2, .ref (am 0)), (1, .ref (ad 0)), (0, .ref b)]) : W p l e room_1 s m #[Value.ref b] below meth c H locs 208 13935 (lw_Z below #[Value.ref b] s) (F0 m 814 ls []) := by
  obtain ⟨hx, hb, hr, hml, hown, hts, hX, hbl, hlocks, hgv⟩ := id C0
  have hts := fun w h => hts w (wsL_law_in w h)
  have X : CallFix p m c cL_law 4 s #[Value.ref b] wsL_law RL := ⟨hx, hb, hml, hown, hts⟩
  have hbA : ¬ A b := fun h => absurd (hAq b h) (Nat.not_le.mpr hbl)
  refine lv_aload_n hx hb dL_law_814 rfl (lv_at hl 2 rfl) ?_
  refine lv_aload_n hx hb dL_law_815 rfl (lv_at hl 3 rfl) ?_
  refine lv_iload_n hx hb dL_law_816 rfl (lv_at hl 0 rfl) ?_
  refine lv_iconst (v := 1) hx hb dL_law_817 (by decide) ?_
  refine lv_iadd hx hb dL_law_818 ?_
  refine zz_v (v := nI (n + 1)) (lw_add n 1) ?_
  refine va_sld hx hb hX hbl hbA Z.2.2.2.1 (vp_in_nI (by omega) (by omega)) dL_law_819 ?_
  refine zz_v (v := xs (n + 1)) (by rw [nI_clamp (by omega)]) ?_
  refine lv_aload_n hx hb dL_law_820 rfl (lv_at hl 3 rfl) ?_
  refine lv_iload_n hx hb dL_law_821 rfl (lv_at hl 0 rfl) ?_
  refine lv_iconst (v := 2) hx hb dL_law_822 (by decide) ?_
  refine lv_iadd hx hb dL_law_823 ?_
  refine zz_v (v := nI (n + 2)) (lw_add n 2) ?_
  refine va_sld hx hb hX hbl hbA Z.2.2.2.1 (vp_in_nI (by omega) (by omega)) dL_law_824 ?_
  refine zz_v (v := xs (n + 2)) (by rw [nI_clamp (by omega)]) ?_
  refine lv_aload_n hx hb dL_law_825 rfl (lv_at hl 3 rfl) ?_
  refine lv_iload_n hx hb dL_law_826 rfl (lv_at hl 0 rfl) ?_
  refine lv_iconst (v := 3) hx hb dL_law_827 (by decide) ?_
  refine lv_iadd hx hb dL_law_828 ?_
  refine zz_v (v := nI (n + 3)) (lw_add n 3) ?_
  refine va_sld hx hb hX hbl hbA Z.2.2.2.1 (vp_in_nI (by omega) (by omega)) dL_law_829 ?_
  refine zz_v (v := xs (n + 3)) (by rw [nI_clamp (by omega)]) ?_
  obtain ⟨r1, σ1, r2, τ1, e1, e2, hR1, hq⟩ := st_feed hR (xs (n + 1)) (xs (n + 2)) (xs (n + 3))
  refine zy_cf (WA := zg_W XL ad cA σ) (WB := zg_W ML am cM τ) (WA1 := zg_W XL ad cA σ1) (TA := zg_T XL cA) (TB := zg_T ML cM) (TA1 := zg_T XL cA) (r0 := r1) Z (fun Zc => va_runV (As := [.int (xs (n + 1)), .int (xs (n + 2)), .int (xs (n + 3))]) (rest := []) X (c_X6_feed l D V ad cA (xs (n + 1)) (xs (n + 2)) (xs (n + 3)) σ r1 σ1 e1 H.size) (cwV 3 hts gL_law_X6_feed rfl rfl rfl ⟨rfl, zh_X6_feed⟩ ⟨Nat.le_of_ble_eq_true rfl, Nat.le_of_ble_eq_true rfl⟩) (zy_pV (ci := 6) Zc xL_ok xk_0 rfl rfl) rfl rfl hl.1 rfl (lv_room (Nat.le_of_ble_eq_true rfl)) dL_law_830 ⟨Nat.le_of_ble_eq_true rfl, Nat.le_of_ble_eq_true rfl⟩) (fun H2 locs Z1 => ?_)
  clear Z
  refine lv_pop hx hb dL_law_833 rfl ?_
  refine lv_aload_n hx hb dL_law_834 rfl (lv_at hl 1 rfl) ?_
  refine lv_aload_n hx hb dL_law_835 rfl (lv_at hl 3 rfl) ?_
  refine lv_iload_n hx hb dL_law_836 rfl (lv_at hl 0 rfl) ?_
  refine lv_iconst (v := 1) hx hb dL_law_837 (by decide) ?_
  refine lv_iadd hx hb dL_law_838 ?_
  refine zz_v (v := nI (n + 1)) (lw_add n 1) ?_
  refine va_sld hx hb hX hbl hbA Z1.2.2.2.1 (vp_in_nI (by omega) (by omega)) dL_law_839 ?_
  refine zz_v (v := xs (n + 1)) (by rw [nI_clamp (by omega)]) ?_
  refine lv_aload_n hx hb dL_law_840 rfl (lv_at hl 3 rfl) ?_
  refine lv_iload_n hx hb dL_law_841 rfl (lv_at hl 0 rfl) ?_
  refine lv_iconst (v := 2) hx hb dL_law_842 (by decide) ?_
  refine lv_iadd hx hb dL_law_843 ?_
  refine zz_v (v := nI (n + 2)) (lw_add n 2) ?_
  refine va_sld hx hb hX hbl hbA Z1.2.2.2.1 (vp_in_nI (by omega) (by omega)) dL_law_844 ?_
  refine zz_v (v := xs (n + 2)) (by rw [nI_clamp (by omega)]) ?_
  refine lv_aload_n hx hb dL_law_845 rfl (lv_at hl 3 rfl) ?_
  refine lv_iload_n hx hb dL_law_846 rfl (lv_at hl 0 rfl) ?_
  refine lv_iconst (v := 3) hx hb dL_law_847 (by decide) ?_
  refine lv_iadd hx hb dL_law_848 ?_
  refine zz_v (v := nI (n + 3)) (lw_add n 3) ?_
  refine va_sld hx hb hX hbl hbA Z1.2.2.2.1 (vp_in_nI (by omega) (by omega)) dL_law_849 ?_
  refine zz_v (v := xs (n + 3)) (by rw [nI_clamp (by omega)]) ?_
  refine zy_cf (WA := zg_W ML am cM τ) (WB := zg_W XL ad cA σ1) (WA1 := zg_W ML am cM τ1) (TA := zg_T ML cM) (TB := zg_T XL cA) (TA1 := zg_T ML cM) (r0 := r2) Z1 (fun Zc => va_runV (As := [.int (xs (n + 1)), .int (xs (n + 2)), .int (xs (n + 3))]) (rest := []) X (c_X7_feed l D V am cM (xs (n + 1)) (xs (n + 2)) (xs (n + 3)) τ r2 τ1 e2 H2.size) (cwV 3 hts gL_law_X7_feed rfl rfl rfl ⟨rfl, zh_X7_feed⟩ ⟨Nat.le_of_ble_eq_true rfl, Nat.le_of_ble_eq_true rfl⟩) (zy_pV (ci := 7) Zc mL_ok mk_0 rfl rfl) rfl rfl hl.1 rfl (lv_room (Nat.le_of_ble_eq_true rfl)) dL_law_850 ⟨Nat.le_of_ble_eq_true rfl, Nat.le_of_ble_eq_true rfl⟩) (fun H4 locs Z3 => ?_)
  clear Z1
  refine lv_pop hx hb dL_law_853 rfl ?_
  refine lv_goto (tgt := 1381) hx hb dL_law_854 (by decide) ?_
  exact kk σ1 τ1 hR1 _ _ _ Z3 hl
set_option maxHeartbeats 4000000 in
set_option maxRecDepth 100000 in
theorem law_case21 {p : Program} {l : Launch} {e : Env} {s : State} {m : MethodId} {below : List Frame} {meth : Method} {c : Code} {b L : Nat} {xs : Nat → Int32} (hL : L ≤ 3072) (C0 : lw_At p s m meth c b L xs) (D : va_G) (V : zz_V) (A : Nat → Prop) (hAq : ∀ q, A q → s.heap.size ≤ q) (ad am : Nat → Nat) (cA cM : Nat → ClassId) (σ τ : zg_S) (hR : lw_R σ τ) (n : Nat) (hn : n + 6 ≤ L) (kk : ∀ (σ τ : zg_S), lw_R σ τ → ∀ (H : Heap) (locs : List Loc) (ls : Array Slot), zz_S D V A s (zg_W XL ad cA σ ++ zg_W ML am cM τ) (zg_T XL cA ++ zg_T ML cM) H locs → lv_has ls 4 [(3, .int (nI n)), (2, .ref (am 0)), (1, .ref (ad 0)), (0, .ref b)] → W p l e room_1 s m #[Value.ref b] below meth c H locs 208 13935 (lw_Z below #[Value.ref b] s) (F0 m 1381 ls [])) {H : Heap} {locs : List Loc} {ls : Array Slot} (Z : zz_S D V A s (zg_W XL ad cA σ ++ zg_W ML am cM τ) (zg_T XL cA ++ zg_T ML cM) H locs) (hl : lv_has ls 4 [(3, .int (nI n)), (2, .ref (am 0)), (1, .ref (ad 0)), (0, .ref b)]) : W p l e room_1 s m #[Value.ref b] below meth c H locs 208 13935 (lw_Z below #[Value.ref b] s) (F0 m 857 ls []) := by
  obtain ⟨hx, hb, hr, hml, hown, hts, hX, hbl, hlocks, hgv⟩ := id C0
  have hts := fun w h => hts w (wsL_law_in w h)
  have X : CallFix p m c cL_law 4 s #[Value.ref b] wsL_law RL := ⟨hx, hb, hml, hown, hts⟩
  have hbA : ¬ A b := fun h => absurd (hAq b h) (Nat.not_le.mpr hbl)
  refine lv_aload_n hx hb dL_law_857 rfl (lv_at hl 2 rfl) ?_
  refine lv_aload_n hx hb dL_law_858 rfl (lv_at hl 3 rfl) ?_
  refine lv_iload_n hx hb dL_law_859 rfl (lv_at hl 0 rfl) ?_
  refine lv_iconst (v := 1) hx hb dL_law_860 (by decide) ?_
  refine lv_iadd hx hb dL_law_861 ?_
  refine zz_v (v := nI (n + 1)) (lw_add n 1) ?_
  refine va_sld hx hb hX hbl hbA Z.2.2.2.1 (vp_in_nI (by omega) (by omega)) dL_law_862 ?_
  refine zz_v (v := xs (n + 1)) (by rw [nI_clamp (by omega)]) ?_
  obtain ⟨r1, σ1, r2, τ1, e1, e2, hR1, hq⟩ := st_trim hR (xs (n + 1))
  refine zy_cf (WA := zg_W XL ad cA σ) (WB := zg_W ML am cM τ) (WA1 := zg_W XL ad cA σ1) (TA := zg_T XL cA) (TB := zg_T ML cM) (TA1 := zg_T XL cA) (r0 := r1) Z (fun Zc => va_runV (As := [.int (xs (n + 1))]) (rest := []) X (c_X6_trim l D V ad cA (xs (n + 1)) σ r1 σ1 e1 H.size) (cwV 1 hts gL_law_X6_trim rfl rfl rfl ⟨rfl, zh_X6_trim⟩ ⟨Nat.le_of_ble_eq_true rfl, Nat.le_of_ble_eq_true rfl⟩) (zy_pV (ci := 6) Zc xL_ok xk_0 rfl rfl) rfl rfl hl.1 rfl (lv_room (Nat.le_of_ble_eq_true rfl)) dL_law_863 ⟨Nat.le_of_ble_eq_true rfl, Nat.le_of_ble_eq_true rfl⟩) (fun H2 locs Z1 => ?_)
  clear Z
  refine lv_pop hx hb dL_law_866 rfl ?_
  refine lv_aload_n hx hb dL_law_867 rfl (lv_at hl 1 rfl) ?_
  refine lv_aload_n hx hb dL_law_868 rfl (lv_at hl 3 rfl) ?_
  refine lv_iload_n hx hb dL_law_869 rfl (lv_at hl 0 rfl) ?_
  refine lv_iconst (v := 1) hx hb dL_law_870 (by decide) ?_
  refine lv_iadd hx hb dL_law_871 ?_
  refine zz_v (v := nI (n + 1)) (lw_add n 1) ?_
  refine va_sld hx hb hX hbl hbA Z1.2.2.2.1 (vp_in_nI (by omega) (by omega)) dL_law_872 ?_
  refine zz_v (v := xs (n + 1)) (by rw [nI_clamp (by omega)]) ?_
  refine zy_cf (WA := zg_W ML am cM τ) (WB := zg_W XL ad cA σ1) (WA1 := zg_W ML am cM τ1) (TA := zg_T ML cM) (TB := zg_T XL cA) (TA1 := zg_T ML cM) (r0 := r2) Z1 (fun Zc => va_runV (As := [.int (xs (n + 1))]) (rest := []) X (c_X7_trim l D V am cM (xs (n + 1)) τ r2 τ1 e2 H2.size) (cwV 1 hts gL_law_X7_trim rfl rfl rfl ⟨rfl, zh_X7_trim⟩ ⟨Nat.le_of_ble_eq_true rfl, Nat.le_of_ble_eq_true rfl⟩) (zy_pV (ci := 7) Zc mL_ok mk_0 rfl rfl) rfl rfl hl.1 rfl (lv_room (Nat.le_of_ble_eq_true rfl)) dL_law_873 ⟨Nat.le_of_ble_eq_true rfl, Nat.le_of_ble_eq_true rfl⟩) (fun H4 locs Z3 => ?_)
  clear Z1
  refine lv_pop hx hb dL_law_876 rfl ?_
  refine lv_goto (tgt := 1381) hx hb dL_law_877 (by decide) ?_
  exact kk σ1 τ1 hR1 _ _ _ Z3 hl
set_option maxHeartbeats 4000000 in
set_option maxRecDepth 100000 in
theorem law_case22 {p : Program} {l : Launch} {e : Env} {s : State} {m : MethodId} {below : List Frame} {meth : Method} {c : Code} {b L : Nat} {xs : Nat → Int32} (hL : L ≤ 3072) (C0 : lw_At p s m meth c b L xs) (D : va_G) (V : zz_V) (A : Nat → Prop) (hAq : ∀ q, A q → s.heap.size ≤ q) (ad am : Nat → Nat) (cA cM : Nat → ClassId) (σ τ : zg_S) (hR : lw_R σ τ) (n : Nat) (hn : n + 6 ≤ L) (kk : ∀ (σ τ : zg_S), lw_R σ τ → ∀ (H : Heap) (locs : List Loc) (ls : Array Slot), zz_S D V A s (zg_W XL ad cA σ ++ zg_W ML am cM τ) (zg_T XL cA ++ zg_T ML cM) H locs → lv_has ls 4 [(3, .int (nI n)), (2, .ref (am 0)), (1, .ref (ad 0)), (0, .ref b)] → W p l e room_1 s m #[Value.ref b] below meth c H locs 208 13935 (lw_Z below #[Value.ref b] s) (F0 m 1381 ls [])) {H : Heap} {locs : List Loc} {ls : Array Slot} (Z : zz_S D V A s (zg_W XL ad cA σ ++ zg_W ML am cM τ) (zg_T XL cA ++ zg_T ML cM) H locs) (hl : lv_has ls 4 [(3, .int (nI n)), (2, .ref (am 0)), (1, .ref (ad 0)), (0, .ref b)]) : W p l e room_1 s m #[Value.ref b] below meth c H locs 208 13935 (lw_Z below #[Value.ref b] s) (F0 m 880 ls []) := by
  obtain ⟨hx, hb, hr, hml, hown, hts, hX, hbl, hlocks, hgv⟩ := id C0
  have hts := fun w h => hts w (wsL_law_in w h)
  have X : CallFix p m c cL_law 4 s #[Value.ref b] wsL_law RL := ⟨hx, hb, hml, hown, hts⟩
  have hbA : ¬ A b := fun h => absurd (hAq b h) (Nat.not_le.mpr hbl)
  refine lv_aload_n hx hb dL_law_880 rfl (lv_at hl 2 rfl) ?_
  obtain ⟨r1, σ1, r2, τ1, e1, e2, hR1, hq⟩ := st_text hR 
  refine zy_cf (WA := zg_W XL ad cA σ) (WB := zg_W ML am cM τ) (WA1 := zg_W XL ad cA σ1) (TA := zg_T XL cA) (TB := zg_T ML cM) (TA1 := zg_T XL cA) (r0 := r1) Z (fun Zc => va_runV (As := []) (rest := []) X (c_X6_text l D V ad cA  σ r1 σ1 e1 H.size) (cwV 0 hts gL_law_X6_text rfl rfl rfl ⟨rfl, zh_X6_text⟩ ⟨Nat.le_of_ble_eq_true rfl, Nat.le_of_ble_eq_true rfl⟩) (zy_pV (ci := 6) Zc xL_ok xk_0 rfl rfl) rfl rfl hl.1 rfl (lv_room (Nat.le_of_ble_eq_true rfl)) dL_law_881 ⟨Nat.le_of_ble_eq_true rfl, Nat.le_of_ble_eq_true rfl⟩) (fun H2 locs Z1 => ?_)
  clear Z
  refine lv_pop hx hb dL_law_884 rfl ?_
  refine lv_aload_n hx hb dL_law_885 rfl (lv_at hl 1 rfl) ?_
  refine zy_cf (WA := zg_W ML am cM τ) (WB := zg_W XL ad cA σ1) (WA1 := zg_W ML am cM τ1) (TA := zg_T ML cM) (TB := zg_T XL cA) (TA1 := zg_T ML cM) (r0 := r2) Z1 (fun Zc => va_runV (As := []) (rest := []) X (c_X7_text l D V am cM  τ r2 τ1 e2 H2.size) (cwV 0 hts gL_law_X7_text rfl rfl rfl ⟨rfl, zh_X7_text⟩ ⟨Nat.le_of_ble_eq_true rfl, Nat.le_of_ble_eq_true rfl⟩) (zy_pV (ci := 7) Zc mL_ok mk_0 rfl rfl) rfl rfl hl.1 rfl (lv_room (Nat.le_of_ble_eq_true rfl)) dL_law_886 ⟨Nat.le_of_ble_eq_true rfl, Nat.le_of_ble_eq_true rfl⟩) (fun H4 locs Z3 => ?_)
  clear Z1
  refine lv_pop hx hb dL_law_889 rfl ?_
  refine lv_goto (tgt := 1381) hx hb dL_law_890 (by decide) ?_
  exact kk σ1 τ1 hR1 _ _ _ Z3 hl
set_option maxHeartbeats 4000000 in
set_option maxRecDepth 100000 in
theorem law_case23 {p : Program} {l : Launch} {e : Env} {s : State} {m : MethodId} {below : List Frame} {meth : Method} {c : Code} {b L : Nat} {xs : Nat → Int32} (hL : L ≤ 3072) (C0 : lw_At p s m meth c b L xs) (D : va_G) (V : zz_V) (A : Nat → Prop) (hAq : ∀ q, A q → s.heap.size ≤ q) (ad am : Nat → Nat) (cA cM : Nat → ClassId) (σ τ : zg_S) (hR : lw_R σ τ) (n : Nat) (hn : n + 6 ≤ L) (kk : ∀ (σ τ : zg_S), lw_R σ τ → ∀ (H : Heap) (locs : List Loc) (ls : Array Slot), zz_S D V A s (zg_W XL ad cA σ ++ zg_W ML am cM τ) (zg_T XL cA ++ zg_T ML cM) H locs → lv_has ls 4 [(3, .int (nI n)), (2, .ref (am 0)), (1, .ref (ad 0)), (0, .ref b)] → W p l e room_1 s m #[Value.ref b] below meth c H locs 208 13935 (lw_Z below #[Value.ref b] s) (F0 m 1381 ls [])) {H : Heap} {locs : List Loc} {ls : Array Slot} (Z : zz_S D V A s (zg_W XL ad cA σ ++ zg_W ML am cM τ) (zg_T XL cA ++ zg_T ML cM) H locs) (hl : lv_has ls 4 [(3, .int (nI n)), (2, .ref (am 0)), (1, .ref (ad 0)), (0, .ref b)]) : W p l e room_1 s m #[Value.ref b] below meth c H locs 208 13935 (lw_Z below #[Value.ref b] s) (F0 m 893 ls []) := by
  obtain ⟨hx, hb, hr, hml, hown, hts, hX, hbl, hlocks, hgv⟩ := id C0
  have hts := fun w h => hts w (wsL_law_in w h)
  have X : CallFix p m c cL_law 4 s #[Value.ref b] wsL_law RL := ⟨hx, hb, hml, hown, hts⟩
  have hbA : ¬ A b := fun h => absurd (hAq b h) (Nat.not_le.mpr hbl)
  refine lv_aload_n hx hb dL_law_893 rfl (lv_at hl 2 rfl) ?_
  refine lv_aload_n hx hb dL_law_894 rfl (lv_at hl 3 rfl) ?_
  refine lv_iload_n hx hb dL_law_895 rfl (lv_at hl 0 rfl) ?_
  refine lv_iconst (v := 1) hx hb dL_law_896 (by decide) ?_
  refine lv_iadd hx hb dL_law_897 ?_
  refine zz_v (v := nI (n + 1)) (lw_add n 1) ?_
  refine va_sld hx hb hX hbl hbA Z.2.2.2.1 (vp_in_nI (by omega) (by omega)) dL_law_898 ?_
  refine zz_v (v := xs (n + 1)) (by rw [nI_clamp (by omega)]) ?_
  refine lv_aload_n hx hb dL_law_899 rfl (lv_at hl 3 rfl) ?_
  refine lv_iload_n hx hb dL_law_900 rfl (lv_at hl 0 rfl) ?_
  refine lv_iconst (v := 2) hx hb dL_law_901 (by decide) ?_
  refine lv_iadd hx hb dL_law_902 ?_
  refine zz_v (v := nI (n + 2)) (lw_add n 2) ?_
  refine va_sld hx hb hX hbl hbA Z.2.2.2.1 (vp_in_nI (by omega) (by omega)) dL_law_903 ?_
  refine zz_v (v := xs (n + 2)) (by rw [nI_clamp (by omega)]) ?_
  obtain ⟨r1, σ1, r2, τ1, e1, e2, hR1, hq⟩ := st_textTold hR (xs (n + 1)) (xs (n + 2))
  refine zy_cf (WA := zg_W XL ad cA σ) (WB := zg_W ML am cM τ) (WA1 := zg_W XL ad cA σ1) (TA := zg_T XL cA) (TB := zg_T ML cM) (TA1 := zg_T XL cA) (r0 := r1) Z (fun Zc => va_runV (As := [.int (xs (n + 1)), .int (xs (n + 2))]) (rest := []) X (c_X6_textTold l D V ad cA (xs (n + 1)) (xs (n + 2)) σ r1 σ1 e1 H.size) (cwV 2 hts gL_law_X6_textTold rfl rfl rfl ⟨rfl, zh_X6_textTold⟩ ⟨Nat.le_of_ble_eq_true rfl, Nat.le_of_ble_eq_true rfl⟩) (zy_pV (ci := 6) Zc xL_ok xk_0 rfl rfl) rfl rfl hl.1 rfl (lv_room (Nat.le_of_ble_eq_true rfl)) dL_law_904 ⟨Nat.le_of_ble_eq_true rfl, Nat.le_of_ble_eq_true rfl⟩) (fun H2 locs Z1 => ?_)
  clear Z
  refine lv_pop hx hb dL_law_907 rfl ?_
  refine lv_aload_n hx hb dL_law_908 rfl (lv_at hl 1 rfl) ?_
  refine lv_aload_n hx hb dL_law_909 rfl (lv_at hl 3 rfl) ?_
  refine lv_iload_n hx hb dL_law_910 rfl (lv_at hl 0 rfl) ?_
  refine lv_iconst (v := 1) hx hb dL_law_911 (by decide) ?_
  refine lv_iadd hx hb dL_law_912 ?_
  refine zz_v (v := nI (n + 1)) (lw_add n 1) ?_
  refine va_sld hx hb hX hbl hbA Z1.2.2.2.1 (vp_in_nI (by omega) (by omega)) dL_law_913 ?_
  refine zz_v (v := xs (n + 1)) (by rw [nI_clamp (by omega)]) ?_
  refine lv_aload_n hx hb dL_law_914 rfl (lv_at hl 3 rfl) ?_
  refine lv_iload_n hx hb dL_law_915 rfl (lv_at hl 0 rfl) ?_
  refine lv_iconst (v := 2) hx hb dL_law_916 (by decide) ?_
  refine lv_iadd hx hb dL_law_917 ?_
  refine zz_v (v := nI (n + 2)) (lw_add n 2) ?_
  refine va_sld hx hb hX hbl hbA Z1.2.2.2.1 (vp_in_nI (by omega) (by omega)) dL_law_918 ?_
  refine zz_v (v := xs (n + 2)) (by rw [nI_clamp (by omega)]) ?_
  refine zy_cf (WA := zg_W ML am cM τ) (WB := zg_W XL ad cA σ1) (WA1 := zg_W ML am cM τ1) (TA := zg_T ML cM) (TB := zg_T XL cA) (TA1 := zg_T ML cM) (r0 := r2) Z1 (fun Zc => va_runV (As := [.int (xs (n + 1)), .int (xs (n + 2))]) (rest := []) X (c_X7_textTold l D V am cM (xs (n + 1)) (xs (n + 2)) τ r2 τ1 e2 H2.size) (cwV 2 hts gL_law_X7_textTold rfl rfl rfl ⟨rfl, zh_X7_textTold⟩ ⟨Nat.le_of_ble_eq_true rfl, Nat.le_of_ble_eq_true rfl⟩) (zy_pV (ci := 7) Zc mL_ok mk_0 rfl rfl) rfl rfl hl.1 rfl (lv_room (Nat.le_of_ble_eq_true rfl)) dL_law_919 ⟨Nat.le_of_ble_eq_true rfl, Nat.le_of_ble_eq_true rfl⟩) (fun H4 locs Z3 => ?_)
  clear Z1
  refine lv_pop hx hb dL_law_922 rfl ?_
  refine lv_goto (tgt := 1381) hx hb dL_law_923 (by decide) ?_
  exact kk σ1 τ1 hR1 _ _ _ Z3 hl
set_option maxHeartbeats 4000000 in
set_option maxRecDepth 100000 in
theorem law_case24 {p : Program} {l : Launch} {e : Env} {s : State} {m : MethodId} {below : List Frame} {meth : Method} {c : Code} {b L : Nat} {xs : Nat → Int32} (hL : L ≤ 3072) (C0 : lw_At p s m meth c b L xs) (D : va_G) (V : zz_V) (A : Nat → Prop) (hAq : ∀ q, A q → s.heap.size ≤ q) (ad am : Nat → Nat) (cA cM : Nat → ClassId) (σ τ : zg_S) (hR : lw_R σ τ) (n : Nat) (hn : n + 6 ≤ L) (kk : ∀ (σ τ : zg_S), lw_R σ τ → ∀ (H : Heap) (locs : List Loc) (ls : Array Slot), zz_S D V A s (zg_W XL ad cA σ ++ zg_W ML am cM τ) (zg_T XL cA ++ zg_T ML cM) H locs → lv_has ls 4 [(3, .int (nI n)), (2, .ref (am 0)), (1, .ref (ad 0)), (0, .ref b)] → W p l e room_1 s m #[Value.ref b] below meth c H locs 208 13935 (lw_Z below #[Value.ref b] s) (F0 m 1381 ls [])) {H : Heap} {locs : List Loc} {ls : Array Slot} (Z : zz_S D V A s (zg_W XL ad cA σ ++ zg_W ML am cM τ) (zg_T XL cA ++ zg_T ML cM) H locs) (hl : lv_has ls 4 [(3, .int (nI n)), (2, .ref (am 0)), (1, .ref (ad 0)), (0, .ref b)]) : W p l e room_1 s m #[Value.ref b] below meth c H locs 208 13935 (lw_Z below #[Value.ref b] s) (F0 m 926 ls []) := by
  obtain ⟨hx, hb, hr, hml, hown, hts, hX, hbl, hlocks, hgv⟩ := id C0
  have hts := fun w h => hts w (wsL_law_in w h)
  have X : CallFix p m c cL_law 4 s #[Value.ref b] wsL_law RL := ⟨hx, hb, hml, hown, hts⟩
  have hbA : ¬ A b := fun h => absurd (hAq b h) (Nat.not_le.mpr hbl)
  refine lv_aload_n hx hb dL_law_926 rfl (lv_at hl 2 rfl) ?_
  refine lv_aload_n hx hb dL_law_927 rfl (lv_at hl 3 rfl) ?_
  refine lv_iload_n hx hb dL_law_928 rfl (lv_at hl 0 rfl) ?_
  refine lv_iconst (v := 1) hx hb dL_law_929 (by decide) ?_
  refine lv_iadd hx hb dL_law_930 ?_
  refine zz_v (v := nI (n + 1)) (lw_add n 1) ?_
  refine va_sld hx hb hX hbl hbA Z.2.2.2.1 (vp_in_nI (by omega) (by omega)) dL_law_931 ?_
  refine zz_v (v := xs (n + 1)) (by rw [nI_clamp (by omega)]) ?_
  obtain ⟨r1, σ1, r2, τ1, e1, e2, hR1, hq⟩ := st_why hR (xs (n + 1))
  refine zy_cf (WA := zg_W XL ad cA σ) (WB := zg_W ML am cM τ) (WA1 := zg_W XL ad cA σ1) (TA := zg_T XL cA) (TB := zg_T ML cM) (TA1 := zg_T XL cA) (r0 := r1) Z (fun Zc => va_runV (As := [.int (xs (n + 1))]) (rest := []) X (c_X6_why l D V ad cA (xs (n + 1)) σ r1 σ1 e1 H.size) (cwV 1 hts gL_law_X6_why rfl rfl rfl ⟨rfl, zh_X6_why⟩ ⟨Nat.le_of_ble_eq_true rfl, Nat.le_of_ble_eq_true rfl⟩) (zy_pV (ci := 6) Zc xL_ok xk_0 rfl rfl) rfl rfl hl.1 rfl (lv_room (Nat.le_of_ble_eq_true rfl)) dL_law_932 ⟨Nat.le_of_ble_eq_true rfl, Nat.le_of_ble_eq_true rfl⟩) (fun H2 locs Z1 => ?_)
  clear Z
  refine lv_pop hx hb dL_law_935 rfl ?_
  refine lv_aload_n hx hb dL_law_936 rfl (lv_at hl 1 rfl) ?_
  refine lv_aload_n hx hb dL_law_937 rfl (lv_at hl 3 rfl) ?_
  refine lv_iload_n hx hb dL_law_938 rfl (lv_at hl 0 rfl) ?_
  refine lv_iconst (v := 1) hx hb dL_law_939 (by decide) ?_
  refine lv_iadd hx hb dL_law_940 ?_
  refine zz_v (v := nI (n + 1)) (lw_add n 1) ?_
  refine va_sld hx hb hX hbl hbA Z1.2.2.2.1 (vp_in_nI (by omega) (by omega)) dL_law_941 ?_
  refine zz_v (v := xs (n + 1)) (by rw [nI_clamp (by omega)]) ?_
  refine zy_cf (WA := zg_W ML am cM τ) (WB := zg_W XL ad cA σ1) (WA1 := zg_W ML am cM τ1) (TA := zg_T ML cM) (TB := zg_T XL cA) (TA1 := zg_T ML cM) (r0 := r2) Z1 (fun Zc => va_runV (As := [.int (xs (n + 1))]) (rest := []) X (c_X7_why l D V am cM (xs (n + 1)) τ r2 τ1 e2 H2.size) (cwV 1 hts gL_law_X7_why rfl rfl rfl ⟨rfl, zh_X7_why⟩ ⟨Nat.le_of_ble_eq_true rfl, Nat.le_of_ble_eq_true rfl⟩) (zy_pV (ci := 7) Zc mL_ok mk_0 rfl rfl) rfl rfl hl.1 rfl (lv_room (Nat.le_of_ble_eq_true rfl)) dL_law_942 ⟨Nat.le_of_ble_eq_true rfl, Nat.le_of_ble_eq_true rfl⟩) (fun H4 locs Z3 => ?_)
  clear Z1
  refine lv_pop hx hb dL_law_945 rfl ?_
  refine lv_goto (tgt := 1381) hx hb dL_law_946 (by decide) ?_
  exact kk σ1 τ1 hR1 _ _ _ Z3 hl
set_option maxHeartbeats 4000000 in
set_option maxRecDepth 100000 in
theorem law_case25 {p : Program} {l : Launch} {e : Env} {s : State} {m : MethodId} {below : List Frame} {meth : Method} {c : Code} {b L : Nat} {xs : Nat → Int32} (hL : L ≤ 3072) (C0 : lw_At p s m meth c b L xs) (D : va_G) (V : zz_V) (A : Nat → Prop) (hAq : ∀ q, A q → s.heap.size ≤ q) (ad am : Nat → Nat) (cA cM : Nat → ClassId) (σ τ : zg_S) (hR : lw_R σ τ) (n : Nat) (hn : n + 6 ≤ L) (kk : ∀ (σ τ : zg_S), lw_R σ τ → ∀ (H : Heap) (locs : List Loc) (ls : Array Slot), zz_S D V A s (zg_W XL ad cA σ ++ zg_W ML am cM τ) (zg_T XL cA ++ zg_T ML cM) H locs → lv_has ls 4 [(3, .int (nI n)), (2, .ref (am 0)), (1, .ref (ad 0)), (0, .ref b)] → W p l e room_1 s m #[Value.ref b] below meth c H locs 208 13935 (lw_Z below #[Value.ref b] s) (F0 m 1381 ls [])) {H : Heap} {locs : List Loc} {ls : Array Slot} (Z : zz_S D V A s (zg_W XL ad cA σ ++ zg_W ML am cM τ) (zg_T XL cA ++ zg_T ML cM) H locs) (hl : lv_has ls 4 [(3, .int (nI n)), (2, .ref (am 0)), (1, .ref (ad 0)), (0, .ref b)]) : W p l e room_1 s m #[Value.ref b] below meth c H locs 208 13935 (lw_Z below #[Value.ref b] s) (F0 m 949 ls []) := by
  obtain ⟨hx, hb, hr, hml, hown, hts, hX, hbl, hlocks, hgv⟩ := id C0
  have hts := fun w h => hts w (wsL_law_in w h)
  have X : CallFix p m c cL_law 4 s #[Value.ref b] wsL_law RL := ⟨hx, hb, hml, hown, hts⟩
  have hbA : ¬ A b := fun h => absurd (hAq b h) (Nat.not_le.mpr hbl)
  refine lv_aload_n hx hb dL_law_949 rfl (lv_at hl 2 rfl) ?_
  refine lv_aload_n hx hb dL_law_950 rfl (lv_at hl 3 rfl) ?_
  refine lv_iload_n hx hb dL_law_951 rfl (lv_at hl 0 rfl) ?_
  refine lv_iconst (v := 1) hx hb dL_law_952 (by decide) ?_
  refine lv_iadd hx hb dL_law_953 ?_
  refine zz_v (v := nI (n + 1)) (lw_add n 1) ?_
  refine va_sld hx hb hX hbl hbA Z.2.2.2.1 (vp_in_nI (by omega) (by omega)) dL_law_954 ?_
  refine zz_v (v := xs (n + 1)) (by rw [nI_clamp (by omega)]) ?_
  refine lv_aload_n hx hb dL_law_955 rfl (lv_at hl 3 rfl) ?_
  refine lv_iload_n hx hb dL_law_956 rfl (lv_at hl 0 rfl) ?_
  refine lv_iconst (v := 2) hx hb dL_law_957 (by decide) ?_
  refine lv_iadd hx hb dL_law_958 ?_
  refine zz_v (v := nI (n + 2)) (lw_add n 2) ?_
  refine va_sld hx hb hX hbl hbA Z.2.2.2.1 (vp_in_nI (by omega) (by omega)) dL_law_959 ?_
  refine zz_v (v := xs (n + 2)) (by rw [nI_clamp (by omega)]) ?_
  refine lv_aload_n hx hb dL_law_960 rfl (lv_at hl 3 rfl) ?_
  refine lv_iload_n hx hb dL_law_961 rfl (lv_at hl 0 rfl) ?_
  refine lv_iconst (v := 3) hx hb dL_law_962 (by decide) ?_
  refine lv_iadd hx hb dL_law_963 ?_
  refine zz_v (v := nI (n + 3)) (lw_add n 3) ?_
  refine va_sld hx hb hX hbl hbA Z.2.2.2.1 (vp_in_nI (by omega) (by omega)) dL_law_964 ?_
  refine zz_v (v := xs (n + 3)) (by rw [nI_clamp (by omega)]) ?_
  obtain ⟨r1, σ1, r2, τ1, e1, e2, hR1, hq⟩ := st_sheet hR (xs (n + 1)) (xs (n + 2)) (xs (n + 3))
  refine zy_cf (WA := zg_W XL ad cA σ) (WB := zg_W ML am cM τ) (WA1 := zg_W XL ad cA σ1) (TA := zg_T XL cA) (TB := zg_T ML cM) (TA1 := zg_T XL cA) (r0 := r1) Z (fun Zc => va_runV (As := [.int (xs (n + 1)), .int (xs (n + 2)), .int (xs (n + 3))]) (rest := []) X (c_X6_sheet l D V ad cA (xs (n + 1)) (xs (n + 2)) (xs (n + 3)) σ r1 σ1 e1 H.size) (cwV 3 hts gL_law_X6_sheet rfl rfl rfl ⟨rfl, zh_X6_sheet⟩ ⟨Nat.le_of_ble_eq_true rfl, Nat.le_of_ble_eq_true rfl⟩) (zy_pV (ci := 6) Zc xL_ok xk_0 rfl rfl) rfl rfl hl.1 rfl (lv_room (Nat.le_of_ble_eq_true rfl)) dL_law_965 ⟨Nat.le_of_ble_eq_true rfl, Nat.le_of_ble_eq_true rfl⟩) (fun H2 locs Z1 => ?_)
  clear Z
  refine lv_pop hx hb dL_law_968 rfl ?_
  refine lv_aload_n hx hb dL_law_969 rfl (lv_at hl 1 rfl) ?_
  refine lv_aload_n hx hb dL_law_970 rfl (lv_at hl 3 rfl) ?_
  refine lv_iload_n hx hb dL_law_971 rfl (lv_at hl 0 rfl) ?_
  refine lv_iconst (v := 1) hx hb dL_law_972 (by decide) ?_
  refine lv_iadd hx hb dL_law_973 ?_
  refine zz_v (v := nI (n + 1)) (lw_add n 1) ?_
  refine va_sld hx hb hX hbl hbA Z1.2.2.2.1 (vp_in_nI (by omega) (by omega)) dL_law_974 ?_
  refine zz_v (v := xs (n + 1)) (by rw [nI_clamp (by omega)]) ?_
  refine lv_aload_n hx hb dL_law_975 rfl (lv_at hl 3 rfl) ?_
  refine lv_iload_n hx hb dL_law_976 rfl (lv_at hl 0 rfl) ?_
  refine lv_iconst (v := 2) hx hb dL_law_977 (by decide) ?_
  refine lv_iadd hx hb dL_law_978 ?_
  refine zz_v (v := nI (n + 2)) (lw_add n 2) ?_
  refine va_sld hx hb hX hbl hbA Z1.2.2.2.1 (vp_in_nI (by omega) (by omega)) dL_law_979 ?_
  refine zz_v (v := xs (n + 2)) (by rw [nI_clamp (by omega)]) ?_
  refine lv_aload_n hx hb dL_law_980 rfl (lv_at hl 3 rfl) ?_
  refine lv_iload_n hx hb dL_law_981 rfl (lv_at hl 0 rfl) ?_
  refine lv_iconst (v := 3) hx hb dL_law_982 (by decide) ?_
  refine lv_iadd hx hb dL_law_983 ?_
  refine zz_v (v := nI (n + 3)) (lw_add n 3) ?_
  refine va_sld hx hb hX hbl hbA Z1.2.2.2.1 (vp_in_nI (by omega) (by omega)) dL_law_984 ?_
  refine zz_v (v := xs (n + 3)) (by rw [nI_clamp (by omega)]) ?_
  refine zy_cf (WA := zg_W ML am cM τ) (WB := zg_W XL ad cA σ1) (WA1 := zg_W ML am cM τ1) (TA := zg_T ML cM) (TB := zg_T XL cA) (TA1 := zg_T ML cM) (r0 := r2) Z1 (fun Zc => va_runV (As := [.int (xs (n + 1)), .int (xs (n + 2)), .int (xs (n + 3))]) (rest := []) X (c_X7_sheet l D V am cM (xs (n + 1)) (xs (n + 2)) (xs (n + 3)) τ r2 τ1 e2 H2.size) (cwV 3 hts gL_law_X7_sheet rfl rfl rfl ⟨rfl, zh_X7_sheet⟩ ⟨Nat.le_of_ble_eq_true rfl, Nat.le_of_ble_eq_true rfl⟩) (zy_pV (ci := 7) Zc mL_ok mk_0 rfl rfl) rfl rfl hl.1 rfl (lv_room (Nat.le_of_ble_eq_true rfl)) dL_law_985 ⟨Nat.le_of_ble_eq_true rfl, Nat.le_of_ble_eq_true rfl⟩) (fun H4 locs Z3 => ?_)
  clear Z1
  refine lv_pop hx hb dL_law_988 rfl ?_
  refine lv_goto (tgt := 1381) hx hb dL_law_989 (by decide) ?_
  exact kk σ1 τ1 hR1 _ _ _ Z3 hl
set_option maxHeartbeats 4000000 in
set_option maxRecDepth 100000 in
theorem law_case26 {p : Program} {l : Launch} {e : Env} {s : State} {m : MethodId} {below : List Frame} {meth : Method} {c : Code} {b L : Nat} {xs : Nat → Int32} (hL : L ≤ 3072) (C0 : lw_At p s m meth c b L xs) (D : va_G) (V : zz_V) (A : Nat → Prop) (hAq : ∀ q, A q → s.heap.size ≤ q) (ad am : Nat → Nat) (cA cM : Nat → ClassId) (σ τ : zg_S) (hR : lw_R σ τ) (n : Nat) (hn : n + 6 ≤ L) (kk : ∀ (σ τ : zg_S), lw_R σ τ → ∀ (H : Heap) (locs : List Loc) (ls : Array Slot), zz_S D V A s (zg_W XL ad cA σ ++ zg_W ML am cM τ) (zg_T XL cA ++ zg_T ML cM) H locs → lv_has ls 4 [(3, .int (nI n)), (2, .ref (am 0)), (1, .ref (ad 0)), (0, .ref b)] → W p l e room_1 s m #[Value.ref b] below meth c H locs 208 13935 (lw_Z below #[Value.ref b] s) (F0 m 1381 ls [])) {H : Heap} {locs : List Loc} {ls : Array Slot} (Z : zz_S D V A s (zg_W XL ad cA σ ++ zg_W ML am cM τ) (zg_T XL cA ++ zg_T ML cM) H locs) (hl : lv_has ls 4 [(3, .int (nI n)), (2, .ref (am 0)), (1, .ref (ad 0)), (0, .ref b)]) : W p l e room_1 s m #[Value.ref b] below meth c H locs 208 13935 (lw_Z below #[Value.ref b] s) (F0 m 992 ls []) := by
  obtain ⟨hx, hb, hr, hml, hown, hts, hX, hbl, hlocks, hgv⟩ := id C0
  have hts := fun w h => hts w (wsL_law_in w h)
  have X : CallFix p m c cL_law 4 s #[Value.ref b] wsL_law RL := ⟨hx, hb, hml, hown, hts⟩
  have hbA : ¬ A b := fun h => absurd (hAq b h) (Nat.not_le.mpr hbl)
  refine lv_aload_n hx hb dL_law_992 rfl (lv_at hl 2 rfl) ?_
  refine lv_aload_n hx hb dL_law_993 rfl (lv_at hl 3 rfl) ?_
  refine lv_iload_n hx hb dL_law_994 rfl (lv_at hl 0 rfl) ?_
  refine lv_iconst (v := 1) hx hb dL_law_995 (by decide) ?_
  refine lv_iadd hx hb dL_law_996 ?_
  refine zz_v (v := nI (n + 1)) (lw_add n 1) ?_
  refine va_sld hx hb hX hbl hbA Z.2.2.2.1 (vp_in_nI (by omega) (by omega)) dL_law_997 ?_
  refine zz_v (v := xs (n + 1)) (by rw [nI_clamp (by omega)]) ?_
  refine lv_aload_n hx hb dL_law_998 rfl (lv_at hl 3 rfl) ?_
  refine lv_iload_n hx hb dL_law_999 rfl (lv_at hl 0 rfl) ?_
  refine lv_iconst (v := 2) hx hb dL_law_1000 (by decide) ?_
  refine lv_iadd hx hb dL_law_1001 ?_
  refine zz_v (v := nI (n + 2)) (lw_add n 2) ?_
  refine va_sld hx hb hX hbl hbA Z.2.2.2.1 (vp_in_nI (by omega) (by omega)) dL_law_1002 ?_
  refine zz_v (v := xs (n + 2)) (by rw [nI_clamp (by omega)]) ?_
  refine lv_aload_n hx hb dL_law_1003 rfl (lv_at hl 3 rfl) ?_
  refine lv_iload_n hx hb dL_law_1004 rfl (lv_at hl 0 rfl) ?_
  refine lv_iconst (v := 3) hx hb dL_law_1005 (by decide) ?_
  refine lv_iadd hx hb dL_law_1006 ?_
  refine zz_v (v := nI (n + 3)) (lw_add n 3) ?_
  refine va_sld hx hb hX hbl hbA Z.2.2.2.1 (vp_in_nI (by omega) (by omega)) dL_law_1007 ?_
  refine zz_v (v := xs (n + 3)) (by rw [nI_clamp (by omega)]) ?_
  obtain ⟨r1, σ1, r2, τ1, e1, e2, hR1, hq⟩ := st_mark hR (xs (n + 1)) (xs (n + 2)) (xs (n + 3))
  refine zy_cf (WA := zg_W XL ad cA σ) (WB := zg_W ML am cM τ) (WA1 := zg_W XL ad cA σ1) (TA := zg_T XL cA) (TB := zg_T ML cM) (TA1 := zg_T XL cA) (r0 := r1) Z (fun Zc => va_runV (As := [.int (xs (n + 1)), .int (xs (n + 2)), .int (xs (n + 3))]) (rest := []) X (c_X6_mark l D V ad cA (xs (n + 1)) (xs (n + 2)) (xs (n + 3)) σ r1 σ1 e1 H.size) (cwV 3 hts gL_law_X6_mark rfl rfl rfl ⟨rfl, zh_X6_mark⟩ ⟨Nat.le_of_ble_eq_true rfl, Nat.le_of_ble_eq_true rfl⟩) (zy_pV (ci := 6) Zc xL_ok xk_0 rfl rfl) rfl rfl hl.1 rfl (lv_room (Nat.le_of_ble_eq_true rfl)) dL_law_1008 ⟨Nat.le_of_ble_eq_true rfl, Nat.le_of_ble_eq_true rfl⟩) (fun H2 locs Z1 => ?_)
  clear Z
  refine lv_pop hx hb dL_law_1011 rfl ?_
  refine lv_aload_n hx hb dL_law_1012 rfl (lv_at hl 1 rfl) ?_
  refine lv_aload_n hx hb dL_law_1013 rfl (lv_at hl 3 rfl) ?_
  refine lv_iload_n hx hb dL_law_1014 rfl (lv_at hl 0 rfl) ?_
  refine lv_iconst (v := 1) hx hb dL_law_1015 (by decide) ?_
  refine lv_iadd hx hb dL_law_1016 ?_
  refine zz_v (v := nI (n + 1)) (lw_add n 1) ?_
  refine va_sld hx hb hX hbl hbA Z1.2.2.2.1 (vp_in_nI (by omega) (by omega)) dL_law_1017 ?_
  refine zz_v (v := xs (n + 1)) (by rw [nI_clamp (by omega)]) ?_
  refine lv_aload_n hx hb dL_law_1018 rfl (lv_at hl 3 rfl) ?_
  refine lv_iload_n hx hb dL_law_1019 rfl (lv_at hl 0 rfl) ?_
  refine lv_iconst (v := 2) hx hb dL_law_1020 (by decide) ?_
  refine lv_iadd hx hb dL_law_1021 ?_
  refine zz_v (v := nI (n + 2)) (lw_add n 2) ?_
  refine va_sld hx hb hX hbl hbA Z1.2.2.2.1 (vp_in_nI (by omega) (by omega)) dL_law_1022 ?_
  refine zz_v (v := xs (n + 2)) (by rw [nI_clamp (by omega)]) ?_
  refine lv_aload_n hx hb dL_law_1023 rfl (lv_at hl 3 rfl) ?_
  refine lv_iload_n hx hb dL_law_1024 rfl (lv_at hl 0 rfl) ?_
  refine lv_iconst (v := 3) hx hb dL_law_1025 (by decide) ?_
  refine lv_iadd hx hb dL_law_1026 ?_
  refine zz_v (v := nI (n + 3)) (lw_add n 3) ?_
  refine va_sld hx hb hX hbl hbA Z1.2.2.2.1 (vp_in_nI (by omega) (by omega)) dL_law_1027 ?_
  refine zz_v (v := xs (n + 3)) (by rw [nI_clamp (by omega)]) ?_
  refine zy_cf (WA := zg_W ML am cM τ) (WB := zg_W XL ad cA σ1) (WA1 := zg_W ML am cM τ1) (TA := zg_T ML cM) (TB := zg_T XL cA) (TA1 := zg_T ML cM) (r0 := r2) Z1 (fun Zc => va_runV (As := [.int (xs (n + 1)), .int (xs (n + 2)), .int (xs (n + 3))]) (rest := []) X (c_X7_mark l D V am cM (xs (n + 1)) (xs (n + 2)) (xs (n + 3)) τ r2 τ1 e2 H2.size) (cwV 3 hts gL_law_X7_mark rfl rfl rfl ⟨rfl, zh_X7_mark⟩ ⟨Nat.le_of_ble_eq_true rfl, Nat.le_of_ble_eq_true rfl⟩) (zy_pV (ci := 7) Zc mL_ok mk_0 rfl rfl) rfl rfl hl.1 rfl (lv_room (Nat.le_of_ble_eq_true rfl)) dL_law_1028 ⟨Nat.le_of_ble_eq_true rfl, Nat.le_of_ble_eq_true rfl⟩) (fun H4 locs Z3 => ?_)
  clear Z1
  refine lv_pop hx hb dL_law_1031 rfl ?_
  refine lv_goto (tgt := 1381) hx hb dL_law_1032 (by decide) ?_
  exact kk σ1 τ1 hR1 _ _ _ Z3 hl
set_option maxHeartbeats 4000000 in
set_option maxRecDepth 100000 in
theorem law_case27 {p : Program} {l : Launch} {e : Env} {s : State} {m : MethodId} {below : List Frame} {meth : Method} {c : Code} {b L : Nat} {xs : Nat → Int32} (hL : L ≤ 3072) (C0 : lw_At p s m meth c b L xs) (D : va_G) (V : zz_V) (A : Nat → Prop) (hAq : ∀ q, A q → s.heap.size ≤ q) (ad am : Nat → Nat) (cA cM : Nat → ClassId) (σ τ : zg_S) (hR : lw_R σ τ) (n : Nat) (hn : n + 6 ≤ L) (kk : ∀ (σ τ : zg_S), lw_R σ τ → ∀ (H : Heap) (locs : List Loc) (ls : Array Slot), zz_S D V A s (zg_W XL ad cA σ ++ zg_W ML am cM τ) (zg_T XL cA ++ zg_T ML cM) H locs → lv_has ls 4 [(3, .int (nI n)), (2, .ref (am 0)), (1, .ref (ad 0)), (0, .ref b)] → W p l e room_1 s m #[Value.ref b] below meth c H locs 208 13935 (lw_Z below #[Value.ref b] s) (F0 m 1381 ls [])) {H : Heap} {locs : List Loc} {ls : Array Slot} (Z : zz_S D V A s (zg_W XL ad cA σ ++ zg_W ML am cM τ) (zg_T XL cA ++ zg_T ML cM) H locs) (hl : lv_has ls 4 [(3, .int (nI n)), (2, .ref (am 0)), (1, .ref (ad 0)), (0, .ref b)]) : W p l e room_1 s m #[Value.ref b] below meth c H locs 208 13935 (lw_Z below #[Value.ref b] s) (F0 m 1035 ls []) := by
  obtain ⟨hx, hb, hr, hml, hown, hts, hX, hbl, hlocks, hgv⟩ := id C0
  have hts := fun w h => hts w (wsL_law_in w h)
  have X : CallFix p m c cL_law 4 s #[Value.ref b] wsL_law RL := ⟨hx, hb, hml, hown, hts⟩
  have hbA : ¬ A b := fun h => absurd (hAq b h) (Nat.not_le.mpr hbl)
  refine lv_aload_n hx hb dL_law_1035 rfl (lv_at hl 2 rfl) ?_
  refine lv_aload_n hx hb dL_law_1036 rfl (lv_at hl 3 rfl) ?_
  refine lv_iload_n hx hb dL_law_1037 rfl (lv_at hl 0 rfl) ?_
  refine lv_iconst (v := 1) hx hb dL_law_1038 (by decide) ?_
  refine lv_iadd hx hb dL_law_1039 ?_
  refine zz_v (v := nI (n + 1)) (lw_add n 1) ?_
  refine va_sld hx hb hX hbl hbA Z.2.2.2.1 (vp_in_nI (by omega) (by omega)) dL_law_1040 ?_
  refine zz_v (v := xs (n + 1)) (by rw [nI_clamp (by omega)]) ?_
  obtain ⟨r1, σ1, r2, τ1, e1, e2, hR1, hq⟩ := st_pour hR (xs (n + 1))
  refine zy_cf (WA := zg_W XL ad cA σ) (WB := zg_W ML am cM τ) (WA1 := zg_W XL ad cA σ1) (TA := zg_T XL cA) (TB := zg_T ML cM) (TA1 := zg_T XL cA) (r0 := r1) Z (fun Zc => va_runV (As := [.int (xs (n + 1))]) (rest := []) X (c_X6_pour l D V ad cA (xs (n + 1)) σ r1 σ1 e1 H.size) (cwV 1 hts gL_law_X6_pour rfl rfl rfl ⟨rfl, zh_X6_pour⟩ ⟨Nat.le_of_ble_eq_true rfl, Nat.le_of_ble_eq_true rfl⟩) (zy_pV (ci := 6) Zc xL_ok xk_0 rfl rfl) rfl rfl hl.1 rfl (lv_room (Nat.le_of_ble_eq_true rfl)) dL_law_1041 ⟨Nat.le_of_ble_eq_true rfl, Nat.le_of_ble_eq_true rfl⟩) (fun H2 locs Z1 => ?_)
  clear Z
  refine lv_pop hx hb dL_law_1044 rfl ?_
  refine lv_aload_n hx hb dL_law_1045 rfl (lv_at hl 1 rfl) ?_
  refine lv_aload_n hx hb dL_law_1046 rfl (lv_at hl 3 rfl) ?_
  refine lv_iload_n hx hb dL_law_1047 rfl (lv_at hl 0 rfl) ?_
  refine lv_iconst (v := 1) hx hb dL_law_1048 (by decide) ?_
  refine lv_iadd hx hb dL_law_1049 ?_
  refine zz_v (v := nI (n + 1)) (lw_add n 1) ?_
  refine va_sld hx hb hX hbl hbA Z1.2.2.2.1 (vp_in_nI (by omega) (by omega)) dL_law_1050 ?_
  refine zz_v (v := xs (n + 1)) (by rw [nI_clamp (by omega)]) ?_
  refine zy_cf (WA := zg_W ML am cM τ) (WB := zg_W XL ad cA σ1) (WA1 := zg_W ML am cM τ1) (TA := zg_T ML cM) (TB := zg_T XL cA) (TA1 := zg_T ML cM) (r0 := r2) Z1 (fun Zc => va_runV (As := [.int (xs (n + 1))]) (rest := []) X (c_X7_pour l D V am cM (xs (n + 1)) τ r2 τ1 e2 H2.size) (cwV 1 hts gL_law_X7_pour rfl rfl rfl ⟨rfl, zh_X7_pour⟩ ⟨Nat.le_of_ble_eq_true rfl, Nat.le_of_ble_eq_true rfl⟩) (zy_pV (ci := 7) Zc mL_ok mk_0 rfl rfl) rfl rfl hl.1 rfl (lv_room (Nat.le_of_ble_eq_true rfl)) dL_law_1051 ⟨Nat.le_of_ble_eq_true rfl, Nat.le_of_ble_eq_true rfl⟩) (fun H4 locs Z3 => ?_)
  clear Z1
  refine lv_pop hx hb dL_law_1054 rfl ?_
  refine lv_goto (tgt := 1381) hx hb dL_law_1055 (by decide) ?_
  exact kk σ1 τ1 hR1 _ _ _ Z3 hl
set_option maxHeartbeats 4000000 in
set_option maxRecDepth 100000 in
theorem law_case28 {p : Program} {l : Launch} {e : Env} {s : State} {m : MethodId} {below : List Frame} {meth : Method} {c : Code} {b L : Nat} {xs : Nat → Int32} (hL : L ≤ 3072) (C0 : lw_At p s m meth c b L xs) (D : va_G) (V : zz_V) (A : Nat → Prop) (hAq : ∀ q, A q → s.heap.size ≤ q) (ad am : Nat → Nat) (cA cM : Nat → ClassId) (σ τ : zg_S) (hR : lw_R σ τ) (n : Nat) (hn : n + 6 ≤ L) (kk : ∀ (σ τ : zg_S), lw_R σ τ → ∀ (H : Heap) (locs : List Loc) (ls : Array Slot), zz_S D V A s (zg_W XL ad cA σ ++ zg_W ML am cM τ) (zg_T XL cA ++ zg_T ML cM) H locs → lv_has ls 4 [(3, .int (nI n)), (2, .ref (am 0)), (1, .ref (ad 0)), (0, .ref b)] → W p l e room_1 s m #[Value.ref b] below meth c H locs 208 13935 (lw_Z below #[Value.ref b] s) (F0 m 1381 ls [])) {H : Heap} {locs : List Loc} {ls : Array Slot} (Z : zz_S D V A s (zg_W XL ad cA σ ++ zg_W ML am cM τ) (zg_T XL cA ++ zg_T ML cM) H locs) (hl : lv_has ls 4 [(3, .int (nI n)), (2, .ref (am 0)), (1, .ref (ad 0)), (0, .ref b)]) : W p l e room_1 s m #[Value.ref b] below meth c H locs 208 13935 (lw_Z below #[Value.ref b] s) (F0 m 1058 ls []) := by
  obtain ⟨hx, hb, hr, hml, hown, hts, hX, hbl, hlocks, hgv⟩ := id C0
  have hts := fun w h => hts w (wsL_law_in w h)
  have X : CallFix p m c cL_law 4 s #[Value.ref b] wsL_law RL := ⟨hx, hb, hml, hown, hts⟩
  have hbA : ¬ A b := fun h => absurd (hAq b h) (Nat.not_le.mpr hbl)
  refine lv_aload_n hx hb dL_law_1058 rfl (lv_at hl 2 rfl) ?_
  refine lv_aload_n hx hb dL_law_1059 rfl (lv_at hl 3 rfl) ?_
  refine lv_iload_n hx hb dL_law_1060 rfl (lv_at hl 0 rfl) ?_
  refine lv_iconst (v := 1) hx hb dL_law_1061 (by decide) ?_
  refine lv_iadd hx hb dL_law_1062 ?_
  refine zz_v (v := nI (n + 1)) (lw_add n 1) ?_
  refine va_sld hx hb hX hbl hbA Z.2.2.2.1 (vp_in_nI (by omega) (by omega)) dL_law_1063 ?_
  refine zz_v (v := xs (n + 1)) (by rw [nI_clamp (by omega)]) ?_
  obtain ⟨r1, σ1, r2, τ1, e1, e2, hR1, hq⟩ := st_reads hR (xs (n + 1))
  refine zy_cf (WA := zg_W XL ad cA σ) (WB := zg_W ML am cM τ) (WA1 := zg_W XL ad cA σ1) (TA := zg_T XL cA) (TB := zg_T ML cM) (TA1 := zg_T XL cA) (r0 := r1) Z (fun Zc => va_runV (As := [.int (xs (n + 1))]) (rest := []) X (c_X6_reads l D V ad cA (xs (n + 1)) σ r1 σ1 e1 H.size) (cwV 1 hts gL_law_X6_reads rfl rfl rfl ⟨rfl, zh_X6_reads⟩ ⟨Nat.le_of_ble_eq_true rfl, Nat.le_of_ble_eq_true rfl⟩) (zy_pV (ci := 6) Zc xL_ok xk_0 rfl rfl) rfl rfl hl.1 rfl (lv_room (Nat.le_of_ble_eq_true rfl)) dL_law_1064 ⟨Nat.le_of_ble_eq_true rfl, Nat.le_of_ble_eq_true rfl⟩) (fun H2 locs Z1 => ?_)
  clear Z
  refine lv_pop hx hb dL_law_1067 rfl ?_
  refine lv_aload_n hx hb dL_law_1068 rfl (lv_at hl 1 rfl) ?_
  refine lv_aload_n hx hb dL_law_1069 rfl (lv_at hl 3 rfl) ?_
  refine lv_iload_n hx hb dL_law_1070 rfl (lv_at hl 0 rfl) ?_
  refine lv_iconst (v := 1) hx hb dL_law_1071 (by decide) ?_
  refine lv_iadd hx hb dL_law_1072 ?_
  refine zz_v (v := nI (n + 1)) (lw_add n 1) ?_
  refine va_sld hx hb hX hbl hbA Z1.2.2.2.1 (vp_in_nI (by omega) (by omega)) dL_law_1073 ?_
  refine zz_v (v := xs (n + 1)) (by rw [nI_clamp (by omega)]) ?_
  refine zy_cf (WA := zg_W ML am cM τ) (WB := zg_W XL ad cA σ1) (WA1 := zg_W ML am cM τ1) (TA := zg_T ML cM) (TB := zg_T XL cA) (TA1 := zg_T ML cM) (r0 := r2) Z1 (fun Zc => va_runV (As := [.int (xs (n + 1))]) (rest := []) X (c_X7_reads l D V am cM (xs (n + 1)) τ r2 τ1 e2 H2.size) (cwV 1 hts gL_law_X7_reads rfl rfl rfl ⟨rfl, zh_X7_reads⟩ ⟨Nat.le_of_ble_eq_true rfl, Nat.le_of_ble_eq_true rfl⟩) (zy_pV (ci := 7) Zc mL_ok mk_0 rfl rfl) rfl rfl hl.1 rfl (lv_room (Nat.le_of_ble_eq_true rfl)) dL_law_1074 ⟨Nat.le_of_ble_eq_true rfl, Nat.le_of_ble_eq_true rfl⟩) (fun H4 locs Z3 => ?_)
  clear Z1
  refine lv_pop hx hb dL_law_1077 rfl ?_
  refine lv_goto (tgt := 1381) hx hb dL_law_1078 (by decide) ?_
  exact kk σ1 τ1 hR1 _ _ _ Z3 hl
set_option maxHeartbeats 4000000 in
set_option maxRecDepth 100000 in
theorem law_case29 {p : Program} {l : Launch} {e : Env} {s : State} {m : MethodId} {below : List Frame} {meth : Method} {c : Code} {b L : Nat} {xs : Nat → Int32} (hL : L ≤ 3072) (C0 : lw_At p s m meth c b L xs) (D : va_G) (V : zz_V) (A : Nat → Prop) (hAq : ∀ q, A q → s.heap.size ≤ q) (ad am : Nat → Nat) (cA cM : Nat → ClassId) (σ τ : zg_S) (hR : lw_R σ τ) (n : Nat) (hn : n + 6 ≤ L) (kk : ∀ (σ τ : zg_S), lw_R σ τ → ∀ (H : Heap) (locs : List Loc) (ls : Array Slot), zz_S D V A s (zg_W XL ad cA σ ++ zg_W ML am cM τ) (zg_T XL cA ++ zg_T ML cM) H locs → lv_has ls 4 [(3, .int (nI n)), (2, .ref (am 0)), (1, .ref (ad 0)), (0, .ref b)] → W p l e room_1 s m #[Value.ref b] below meth c H locs 208 13935 (lw_Z below #[Value.ref b] s) (F0 m 1381 ls [])) {H : Heap} {locs : List Loc} {ls : Array Slot} (Z : zz_S D V A s (zg_W XL ad cA σ ++ zg_W ML am cM τ) (zg_T XL cA ++ zg_T ML cM) H locs) (hl : lv_has ls 4 [(3, .int (nI n)), (2, .ref (am 0)), (1, .ref (ad 0)), (0, .ref b)]) : W p l e room_1 s m #[Value.ref b] below meth c H locs 208 13935 (lw_Z below #[Value.ref b] s) (F0 m 1081 ls []) := by
  obtain ⟨hx, hb, hr, hml, hown, hts, hX, hbl, hlocks, hgv⟩ := id C0
  have hts := fun w h => hts w (wsL_law_in w h)
  have X : CallFix p m c cL_law 4 s #[Value.ref b] wsL_law RL := ⟨hx, hb, hml, hown, hts⟩
  have hbA : ¬ A b := fun h => absurd (hAq b h) (Nat.not_le.mpr hbl)
  refine lv_aload_n hx hb dL_law_1081 rfl (lv_at hl 2 rfl) ?_
  refine lv_aload_n hx hb dL_law_1082 rfl (lv_at hl 3 rfl) ?_
  refine lv_iload_n hx hb dL_law_1083 rfl (lv_at hl 0 rfl) ?_
  refine lv_iconst (v := 1) hx hb dL_law_1084 (by decide) ?_
  refine lv_iadd hx hb dL_law_1085 ?_
  refine zz_v (v := nI (n + 1)) (lw_add n 1) ?_
  refine va_sld hx hb hX hbl hbA Z.2.2.2.1 (vp_in_nI (by omega) (by omega)) dL_law_1086 ?_
  refine zz_v (v := xs (n + 1)) (by rw [nI_clamp (by omega)]) ?_
  refine lv_aload_n hx hb dL_law_1087 rfl (lv_at hl 3 rfl) ?_
  refine lv_iload_n hx hb dL_law_1088 rfl (lv_at hl 0 rfl) ?_
  refine lv_iconst (v := 2) hx hb dL_law_1089 (by decide) ?_
  refine lv_iadd hx hb dL_law_1090 ?_
  refine zz_v (v := nI (n + 2)) (lw_add n 2) ?_
  refine va_sld hx hb hX hbl hbA Z.2.2.2.1 (vp_in_nI (by omega) (by omega)) dL_law_1091 ?_
  refine zz_v (v := xs (n + 2)) (by rw [nI_clamp (by omega)]) ?_
  refine lv_aload_n hx hb dL_law_1092 rfl (lv_at hl 3 rfl) ?_
  refine lv_iload_n hx hb dL_law_1093 rfl (lv_at hl 0 rfl) ?_
  refine lv_iconst (v := 3) hx hb dL_law_1094 (by decide) ?_
  refine lv_iadd hx hb dL_law_1095 ?_
  refine zz_v (v := nI (n + 3)) (lw_add n 3) ?_
  refine va_sld hx hb hX hbl hbA Z.2.2.2.1 (vp_in_nI (by omega) (by omega)) dL_law_1096 ?_
  refine zz_v (v := xs (n + 3)) (by rw [nI_clamp (by omega)]) ?_
  refine lv_aload_n hx hb dL_law_1097 rfl (lv_at hl 3 rfl) ?_
  refine lv_iload_n hx hb dL_law_1098 rfl (lv_at hl 0 rfl) ?_
  refine lv_iconst (v := 4) hx hb dL_law_1099 (by decide) ?_
  refine lv_iadd hx hb dL_law_1100 ?_
  refine zz_v (v := nI (n + 4)) (lw_add n 4) ?_
  refine va_sld hx hb hX hbl hbA Z.2.2.2.1 (vp_in_nI (by omega) (by omega)) dL_law_1101 ?_
  refine zz_v (v := xs (n + 4)) (by rw [nI_clamp (by omega)]) ?_
  refine lv_aload_n hx hb dL_law_1102 rfl (lv_at hl 3 rfl) ?_
  refine lv_iload_n hx hb dL_law_1103 rfl (lv_at hl 0 rfl) ?_
  refine lv_iconst (v := 5) hx hb dL_law_1104 (by decide) ?_
  refine lv_iadd hx hb dL_law_1105 ?_
  refine zz_v (v := nI (n + 5)) (lw_add n 5) ?_
  refine va_sld hx hb hX hbl hbA Z.2.2.2.1 (vp_in_nI (by omega) (by omega)) dL_law_1106 ?_
  refine zz_v (v := xs (n + 5)) (by rw [nI_clamp (by omega)]) ?_
  obtain ⟨r1, σ1, r2, τ1, e1, e2, hR1, hq⟩ := st_copy hR (xs (n + 1)) (xs (n + 2)) (xs (n + 3)) (xs (n + 4)) (xs (n + 5))
  refine zy_cf (WA := zg_W XL ad cA σ) (WB := zg_W ML am cM τ) (WA1 := zg_W XL ad cA σ1) (TA := zg_T XL cA) (TB := zg_T ML cM) (TA1 := zg_T XL cA) (r0 := r1) Z (fun Zc => va_runV (As := [.int (xs (n + 1)), .int (xs (n + 2)), .int (xs (n + 3)), .int (xs (n + 4)), .int (xs (n + 5))]) (rest := []) X (c_X6_copy l D V ad cA (xs (n + 1)) (xs (n + 2)) (xs (n + 3)) (xs (n + 4)) (xs (n + 5)) σ r1 σ1 e1 H.size) (cwV 5 hts gL_law_X6_copy rfl rfl rfl ⟨rfl, zh_X6_copy⟩ ⟨Nat.le_of_ble_eq_true rfl, Nat.le_of_ble_eq_true rfl⟩) (zy_pV (ci := 6) Zc xL_ok xk_0 rfl rfl) rfl rfl hl.1 rfl (lv_room (Nat.le_of_ble_eq_true rfl)) dL_law_1107 ⟨Nat.le_of_ble_eq_true rfl, Nat.le_of_ble_eq_true rfl⟩) (fun H2 locs Z1 => ?_)
  clear Z
  refine lv_pop hx hb dL_law_1110 rfl ?_
  refine lv_aload_n hx hb dL_law_1111 rfl (lv_at hl 1 rfl) ?_
  refine lv_aload_n hx hb dL_law_1112 rfl (lv_at hl 3 rfl) ?_
  refine lv_iload_n hx hb dL_law_1113 rfl (lv_at hl 0 rfl) ?_
  refine lv_iconst (v := 1) hx hb dL_law_1114 (by decide) ?_
  refine lv_iadd hx hb dL_law_1115 ?_
  refine zz_v (v := nI (n + 1)) (lw_add n 1) ?_
  refine va_sld hx hb hX hbl hbA Z1.2.2.2.1 (vp_in_nI (by omega) (by omega)) dL_law_1116 ?_
  refine zz_v (v := xs (n + 1)) (by rw [nI_clamp (by omega)]) ?_
  refine lv_aload_n hx hb dL_law_1117 rfl (lv_at hl 3 rfl) ?_
  refine lv_iload_n hx hb dL_law_1118 rfl (lv_at hl 0 rfl) ?_
  refine lv_iconst (v := 2) hx hb dL_law_1119 (by decide) ?_
  refine lv_iadd hx hb dL_law_1120 ?_
  refine zz_v (v := nI (n + 2)) (lw_add n 2) ?_
  refine va_sld hx hb hX hbl hbA Z1.2.2.2.1 (vp_in_nI (by omega) (by omega)) dL_law_1121 ?_
  refine zz_v (v := xs (n + 2)) (by rw [nI_clamp (by omega)]) ?_
  refine lv_aload_n hx hb dL_law_1122 rfl (lv_at hl 3 rfl) ?_
  refine lv_iload_n hx hb dL_law_1123 rfl (lv_at hl 0 rfl) ?_
  refine lv_iconst (v := 3) hx hb dL_law_1124 (by decide) ?_
  refine lv_iadd hx hb dL_law_1125 ?_
  refine zz_v (v := nI (n + 3)) (lw_add n 3) ?_
  refine va_sld hx hb hX hbl hbA Z1.2.2.2.1 (vp_in_nI (by omega) (by omega)) dL_law_1126 ?_
  refine zz_v (v := xs (n + 3)) (by rw [nI_clamp (by omega)]) ?_
  refine lv_aload_n hx hb dL_law_1127 rfl (lv_at hl 3 rfl) ?_
  refine lv_iload_n hx hb dL_law_1128 rfl (lv_at hl 0 rfl) ?_
  refine lv_iconst (v := 4) hx hb dL_law_1129 (by decide) ?_
  refine lv_iadd hx hb dL_law_1130 ?_
  refine zz_v (v := nI (n + 4)) (lw_add n 4) ?_
  refine va_sld hx hb hX hbl hbA Z1.2.2.2.1 (vp_in_nI (by omega) (by omega)) dL_law_1131 ?_
  refine zz_v (v := xs (n + 4)) (by rw [nI_clamp (by omega)]) ?_
  refine lv_aload_n hx hb dL_law_1132 rfl (lv_at hl 3 rfl) ?_
  refine lv_iload_n hx hb dL_law_1133 rfl (lv_at hl 0 rfl) ?_
  refine lv_iconst (v := 5) hx hb dL_law_1134 (by decide) ?_
  refine lv_iadd hx hb dL_law_1135 ?_
  refine zz_v (v := nI (n + 5)) (lw_add n 5) ?_
  refine va_sld hx hb hX hbl hbA Z1.2.2.2.1 (vp_in_nI (by omega) (by omega)) dL_law_1136 ?_
  refine zz_v (v := xs (n + 5)) (by rw [nI_clamp (by omega)]) ?_
  refine zy_cf (WA := zg_W ML am cM τ) (WB := zg_W XL ad cA σ1) (WA1 := zg_W ML am cM τ1) (TA := zg_T ML cM) (TB := zg_T XL cA) (TA1 := zg_T ML cM) (r0 := r2) Z1 (fun Zc => va_runV (As := [.int (xs (n + 1)), .int (xs (n + 2)), .int (xs (n + 3)), .int (xs (n + 4)), .int (xs (n + 5))]) (rest := []) X (c_X7_copy l D V am cM (xs (n + 1)) (xs (n + 2)) (xs (n + 3)) (xs (n + 4)) (xs (n + 5)) τ r2 τ1 e2 H2.size) (cwV 5 hts gL_law_X7_copy rfl rfl rfl ⟨rfl, zh_X7_copy⟩ ⟨Nat.le_of_ble_eq_true rfl, Nat.le_of_ble_eq_true rfl⟩) (zy_pV (ci := 7) Zc mL_ok mk_0 rfl rfl) rfl rfl hl.1 rfl (lv_room (Nat.le_of_ble_eq_true rfl)) dL_law_1137 ⟨Nat.le_of_ble_eq_true rfl, Nat.le_of_ble_eq_true rfl⟩) (fun H4 locs Z3 => ?_)
  clear Z1
  refine lv_pop hx hb dL_law_1140 rfl ?_
  refine lv_goto (tgt := 1381) hx hb dL_law_1141 (by decide) ?_
  exact kk σ1 τ1 hR1 _ _ _ Z3 hl
set_option maxHeartbeats 4000000 in
set_option maxRecDepth 100000 in
theorem law_case30 {p : Program} {l : Launch} {e : Env} {s : State} {m : MethodId} {below : List Frame} {meth : Method} {c : Code} {b L : Nat} {xs : Nat → Int32} (hL : L ≤ 3072) (C0 : lw_At p s m meth c b L xs) (D : va_G) (V : zz_V) (A : Nat → Prop) (hAq : ∀ q, A q → s.heap.size ≤ q) (ad am : Nat → Nat) (cA cM : Nat → ClassId) (σ τ : zg_S) (hR : lw_R σ τ) (n : Nat) (hn : n + 6 ≤ L) (kk : ∀ (σ τ : zg_S), lw_R σ τ → ∀ (H : Heap) (locs : List Loc) (ls : Array Slot), zz_S D V A s (zg_W XL ad cA σ ++ zg_W ML am cM τ) (zg_T XL cA ++ zg_T ML cM) H locs → lv_has ls 4 [(3, .int (nI n)), (2, .ref (am 0)), (1, .ref (ad 0)), (0, .ref b)] → W p l e room_1 s m #[Value.ref b] below meth c H locs 208 13935 (lw_Z below #[Value.ref b] s) (F0 m 1381 ls [])) {H : Heap} {locs : List Loc} {ls : Array Slot} (Z : zz_S D V A s (zg_W XL ad cA σ ++ zg_W ML am cM τ) (zg_T XL cA ++ zg_T ML cM) H locs) (hl : lv_has ls 4 [(3, .int (nI n)), (2, .ref (am 0)), (1, .ref (ad 0)), (0, .ref b)]) : W p l e room_1 s m #[Value.ref b] below meth c H locs 208 13935 (lw_Z below #[Value.ref b] s) (F0 m 1144 ls []) := by
  obtain ⟨hx, hb, hr, hml, hown, hts, hX, hbl, hlocks, hgv⟩ := id C0
  have hts := fun w h => hts w (wsL_law_in w h)
  have X : CallFix p m c cL_law 4 s #[Value.ref b] wsL_law RL := ⟨hx, hb, hml, hown, hts⟩
  have hbA : ¬ A b := fun h => absurd (hAq b h) (Nat.not_le.mpr hbl)
  refine lv_aload_n hx hb dL_law_1144 rfl (lv_at hl 2 rfl) ?_
  refine lv_aload_n hx hb dL_law_1145 rfl (lv_at hl 3 rfl) ?_
  refine lv_iload_n hx hb dL_law_1146 rfl (lv_at hl 0 rfl) ?_
  refine lv_iconst (v := 1) hx hb dL_law_1147 (by decide) ?_
  refine lv_iadd hx hb dL_law_1148 ?_
  refine zz_v (v := nI (n + 1)) (lw_add n 1) ?_
  refine va_sld hx hb hX hbl hbA Z.2.2.2.1 (vp_in_nI (by omega) (by omega)) dL_law_1149 ?_
  refine zz_v (v := xs (n + 1)) (by rw [nI_clamp (by omega)]) ?_
  refine lv_aload_n hx hb dL_law_1150 rfl (lv_at hl 3 rfl) ?_
  refine lv_iload_n hx hb dL_law_1151 rfl (lv_at hl 0 rfl) ?_
  refine lv_iconst (v := 2) hx hb dL_law_1152 (by decide) ?_
  refine lv_iadd hx hb dL_law_1153 ?_
  refine zz_v (v := nI (n + 2)) (lw_add n 2) ?_
  refine va_sld hx hb hX hbl hbA Z.2.2.2.1 (vp_in_nI (by omega) (by omega)) dL_law_1154 ?_
  refine zz_v (v := xs (n + 2)) (by rw [nI_clamp (by omega)]) ?_
  refine lv_aload_n hx hb dL_law_1155 rfl (lv_at hl 3 rfl) ?_
  refine lv_iload_n hx hb dL_law_1156 rfl (lv_at hl 0 rfl) ?_
  refine lv_iconst (v := 3) hx hb dL_law_1157 (by decide) ?_
  refine lv_iadd hx hb dL_law_1158 ?_
  refine zz_v (v := nI (n + 3)) (lw_add n 3) ?_
  refine va_sld hx hb hX hbl hbA Z.2.2.2.1 (vp_in_nI (by omega) (by omega)) dL_law_1159 ?_
  refine zz_v (v := xs (n + 3)) (by rw [nI_clamp (by omega)]) ?_
  obtain ⟨r1, σ1, r2, τ1, e1, e2, hR1, hq⟩ := st_lay hR (xs (n + 1)) (xs (n + 2)) (xs (n + 3))
  refine zy_cf (WA := zg_W XL ad cA σ) (WB := zg_W ML am cM τ) (WA1 := zg_W XL ad cA σ1) (TA := zg_T XL cA) (TB := zg_T ML cM) (TA1 := zg_T XL cA) (r0 := r1) Z (fun Zc => va_runV (As := [.int (xs (n + 1)), .int (xs (n + 2)), .int (xs (n + 3))]) (rest := []) X (c_X6_lay l D V ad cA (xs (n + 1)) (xs (n + 2)) (xs (n + 3)) σ r1 σ1 e1 H.size) (cwV 3 hts gL_law_X6_lay rfl rfl rfl ⟨rfl, zh_X6_lay⟩ ⟨Nat.le_of_ble_eq_true rfl, Nat.le_of_ble_eq_true rfl⟩) (zy_pV (ci := 6) Zc xL_ok xk_0 rfl rfl) rfl rfl hl.1 rfl (lv_room (Nat.le_of_ble_eq_true rfl)) dL_law_1160 ⟨Nat.le_of_ble_eq_true rfl, Nat.le_of_ble_eq_true rfl⟩) (fun H2 locs Z1 => ?_)
  clear Z
  refine lv_pop hx hb dL_law_1163 rfl ?_
  refine lv_aload_n hx hb dL_law_1164 rfl (lv_at hl 1 rfl) ?_
  refine lv_aload_n hx hb dL_law_1165 rfl (lv_at hl 3 rfl) ?_
  refine lv_iload_n hx hb dL_law_1166 rfl (lv_at hl 0 rfl) ?_
  refine lv_iconst (v := 1) hx hb dL_law_1167 (by decide) ?_
  refine lv_iadd hx hb dL_law_1168 ?_
  refine zz_v (v := nI (n + 1)) (lw_add n 1) ?_
  refine va_sld hx hb hX hbl hbA Z1.2.2.2.1 (vp_in_nI (by omega) (by omega)) dL_law_1169 ?_
  refine zz_v (v := xs (n + 1)) (by rw [nI_clamp (by omega)]) ?_
  refine lv_aload_n hx hb dL_law_1170 rfl (lv_at hl 3 rfl) ?_
  refine lv_iload_n hx hb dL_law_1171 rfl (lv_at hl 0 rfl) ?_
  refine lv_iconst (v := 2) hx hb dL_law_1172 (by decide) ?_
  refine lv_iadd hx hb dL_law_1173 ?_
  refine zz_v (v := nI (n + 2)) (lw_add n 2) ?_
  refine va_sld hx hb hX hbl hbA Z1.2.2.2.1 (vp_in_nI (by omega) (by omega)) dL_law_1174 ?_
  refine zz_v (v := xs (n + 2)) (by rw [nI_clamp (by omega)]) ?_
  refine lv_aload_n hx hb dL_law_1175 rfl (lv_at hl 3 rfl) ?_
  refine lv_iload_n hx hb dL_law_1176 rfl (lv_at hl 0 rfl) ?_
  refine lv_iconst (v := 3) hx hb dL_law_1177 (by decide) ?_
  refine lv_iadd hx hb dL_law_1178 ?_
  refine zz_v (v := nI (n + 3)) (lw_add n 3) ?_
  refine va_sld hx hb hX hbl hbA Z1.2.2.2.1 (vp_in_nI (by omega) (by omega)) dL_law_1179 ?_
  refine zz_v (v := xs (n + 3)) (by rw [nI_clamp (by omega)]) ?_
  refine zy_cf (WA := zg_W ML am cM τ) (WB := zg_W XL ad cA σ1) (WA1 := zg_W ML am cM τ1) (TA := zg_T ML cM) (TB := zg_T XL cA) (TA1 := zg_T ML cM) (r0 := r2) Z1 (fun Zc => va_runV (As := [.int (xs (n + 1)), .int (xs (n + 2)), .int (xs (n + 3))]) (rest := []) X (c_X7_lay l D V am cM (xs (n + 1)) (xs (n + 2)) (xs (n + 3)) τ r2 τ1 e2 H2.size) (cwV 3 hts gL_law_X7_lay rfl rfl rfl ⟨rfl, zh_X7_lay⟩ ⟨Nat.le_of_ble_eq_true rfl, Nat.le_of_ble_eq_true rfl⟩) (zy_pV (ci := 7) Zc mL_ok mk_0 rfl rfl) rfl rfl hl.1 rfl (lv_room (Nat.le_of_ble_eq_true rfl)) dL_law_1180 ⟨Nat.le_of_ble_eq_true rfl, Nat.le_of_ble_eq_true rfl⟩) (fun H4 locs Z3 => ?_)
  clear Z1
  refine lv_pop hx hb dL_law_1183 rfl ?_
  refine lv_goto (tgt := 1381) hx hb dL_law_1184 (by decide) ?_
  exact kk σ1 τ1 hR1 _ _ _ Z3 hl
set_option maxHeartbeats 4000000 in
set_option maxRecDepth 100000 in
theorem law_case31 {p : Program} {l : Launch} {e : Env} {s : State} {m : MethodId} {below : List Frame} {meth : Method} {c : Code} {b L : Nat} {xs : Nat → Int32} (hL : L ≤ 3072) (C0 : lw_At p s m meth c b L xs) (D : va_G) (V : zz_V) (A : Nat → Prop) (hAq : ∀ q, A q → s.heap.size ≤ q) (ad am : Nat → Nat) (cA cM : Nat → ClassId) (σ τ : zg_S) (hR : lw_R σ τ) (n : Nat) (hn : n + 6 ≤ L) (kk : ∀ (σ τ : zg_S), lw_R σ τ → ∀ (H : Heap) (locs : List Loc) (ls : Array Slot), zz_S D V A s (zg_W XL ad cA σ ++ zg_W ML am cM τ) (zg_T XL cA ++ zg_T ML cM) H locs → lv_has ls 4 [(3, .int (nI n)), (2, .ref (am 0)), (1, .ref (ad 0)), (0, .ref b)] → W p l e room_1 s m #[Value.ref b] below meth c H locs 208 13935 (lw_Z below #[Value.ref b] s) (F0 m 1381 ls [])) {H : Heap} {locs : List Loc} {ls : Array Slot} (Z : zz_S D V A s (zg_W XL ad cA σ ++ zg_W ML am cM τ) (zg_T XL cA ++ zg_T ML cM) H locs) (hl : lv_has ls 4 [(3, .int (nI n)), (2, .ref (am 0)), (1, .ref (ad 0)), (0, .ref b)]) : W p l e room_1 s m #[Value.ref b] below meth c H locs 208 13935 (lw_Z below #[Value.ref b] s) (F0 m 1187 ls []) := by
  obtain ⟨hx, hb, hr, hml, hown, hts, hX, hbl, hlocks, hgv⟩ := id C0
  have hts := fun w h => hts w (wsL_law_in w h)
  have X : CallFix p m c cL_law 4 s #[Value.ref b] wsL_law RL := ⟨hx, hb, hml, hown, hts⟩
  have hbA : ¬ A b := fun h => absurd (hAq b h) (Nat.not_le.mpr hbl)
  refine lv_aload_n hx hb dL_law_1187 rfl (lv_at hl 2 rfl) ?_
  refine lv_aload_n hx hb dL_law_1188 rfl (lv_at hl 3 rfl) ?_
  refine lv_iload_n hx hb dL_law_1189 rfl (lv_at hl 0 rfl) ?_
  refine lv_iconst (v := 1) hx hb dL_law_1190 (by decide) ?_
  refine lv_iadd hx hb dL_law_1191 ?_
  refine zz_v (v := nI (n + 1)) (lw_add n 1) ?_
  refine va_sld hx hb hX hbl hbA Z.2.2.2.1 (vp_in_nI (by omega) (by omega)) dL_law_1192 ?_
  refine zz_v (v := xs (n + 1)) (by rw [nI_clamp (by omega)]) ?_
  refine lv_aload_n hx hb dL_law_1193 rfl (lv_at hl 3 rfl) ?_
  refine lv_iload_n hx hb dL_law_1194 rfl (lv_at hl 0 rfl) ?_
  refine lv_iconst (v := 2) hx hb dL_law_1195 (by decide) ?_
  refine lv_iadd hx hb dL_law_1196 ?_
  refine zz_v (v := nI (n + 2)) (lw_add n 2) ?_
  refine va_sld hx hb hX hbl hbA Z.2.2.2.1 (vp_in_nI (by omega) (by omega)) dL_law_1197 ?_
  refine zz_v (v := xs (n + 2)) (by rw [nI_clamp (by omega)]) ?_
  obtain ⟨r1, σ1, r2, τ1, e1, e2, hR1, hq⟩ := st_ask hR (xs (n + 1)) (xs (n + 2))
  refine zy_cf (WA := zg_W XL ad cA σ) (WB := zg_W ML am cM τ) (WA1 := zg_W XL ad cA σ1) (TA := zg_T XL cA) (TB := zg_T ML cM) (TA1 := zg_T XL cA) (r0 := r1) Z (fun Zc => va_runV (As := [.int (xs (n + 1)), .int (xs (n + 2))]) (rest := []) X (c_X6_ask l D V ad cA (xs (n + 1)) (xs (n + 2)) σ r1 σ1 e1 H.size) (cwV 2 hts gL_law_X6_ask rfl rfl rfl ⟨rfl, zh_X6_ask⟩ ⟨Nat.le_of_ble_eq_true rfl, Nat.le_of_ble_eq_true rfl⟩) (zy_pV (ci := 6) Zc xL_ok xk_0 rfl rfl) rfl rfl hl.1 rfl (lv_room (Nat.le_of_ble_eq_true rfl)) dL_law_1198 ⟨Nat.le_of_ble_eq_true rfl, Nat.le_of_ble_eq_true rfl⟩) (fun H2 locs Z1 => ?_)
  clear Z
  refine lv_pop hx hb dL_law_1201 rfl ?_
  refine lv_aload_n hx hb dL_law_1202 rfl (lv_at hl 1 rfl) ?_
  refine lv_aload_n hx hb dL_law_1203 rfl (lv_at hl 3 rfl) ?_
  refine lv_iload_n hx hb dL_law_1204 rfl (lv_at hl 0 rfl) ?_
  refine lv_iconst (v := 1) hx hb dL_law_1205 (by decide) ?_
  refine lv_iadd hx hb dL_law_1206 ?_
  refine zz_v (v := nI (n + 1)) (lw_add n 1) ?_
  refine va_sld hx hb hX hbl hbA Z1.2.2.2.1 (vp_in_nI (by omega) (by omega)) dL_law_1207 ?_
  refine zz_v (v := xs (n + 1)) (by rw [nI_clamp (by omega)]) ?_
  refine lv_aload_n hx hb dL_law_1208 rfl (lv_at hl 3 rfl) ?_
  refine lv_iload_n hx hb dL_law_1209 rfl (lv_at hl 0 rfl) ?_
  refine lv_iconst (v := 2) hx hb dL_law_1210 (by decide) ?_
  refine lv_iadd hx hb dL_law_1211 ?_
  refine zz_v (v := nI (n + 2)) (lw_add n 2) ?_
  refine va_sld hx hb hX hbl hbA Z1.2.2.2.1 (vp_in_nI (by omega) (by omega)) dL_law_1212 ?_
  refine zz_v (v := xs (n + 2)) (by rw [nI_clamp (by omega)]) ?_
  refine zy_cf (WA := zg_W ML am cM τ) (WB := zg_W XL ad cA σ1) (WA1 := zg_W ML am cM τ1) (TA := zg_T ML cM) (TB := zg_T XL cA) (TA1 := zg_T ML cM) (r0 := r2) Z1 (fun Zc => va_runV (As := [.int (xs (n + 1)), .int (xs (n + 2))]) (rest := []) X (c_X7_ask l D V am cM (xs (n + 1)) (xs (n + 2)) τ r2 τ1 e2 H2.size) (cwV 2 hts gL_law_X7_ask rfl rfl rfl ⟨rfl, zh_X7_ask⟩ ⟨Nat.le_of_ble_eq_true rfl, Nat.le_of_ble_eq_true rfl⟩) (zy_pV (ci := 7) Zc mL_ok mk_0 rfl rfl) rfl rfl hl.1 rfl (lv_room (Nat.le_of_ble_eq_true rfl)) dL_law_1213 ⟨Nat.le_of_ble_eq_true rfl, Nat.le_of_ble_eq_true rfl⟩) (fun H4 locs Z3 => ?_)
  clear Z1
  refine lv_pop hx hb dL_law_1216 rfl ?_
  refine lv_goto (tgt := 1381) hx hb dL_law_1217 (by decide) ?_
  exact kk σ1 τ1 hR1 _ _ _ Z3 hl
