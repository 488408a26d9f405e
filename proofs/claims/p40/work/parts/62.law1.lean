set_option maxHeartbeats 4000000 in
set_option maxRecDepth 100000 in
theorem law_case32 {p : Program} {l : Launch} {e : Env} {s : State} {m : MethodId} {below : List Frame} {meth : Method} {c : Code} {b L : Nat} {xs : Nat → Int32} (hL : L ≤ 3072) (C0 : lw_At p s m meth c b L xs) (D : va_G) (V : zz_V) (A : Nat → Prop) (hAq : ∀ q, A q → s.heap.size ≤ q) (ad am : Nat → Nat) (cA cM : Nat → ClassId) (σ τ : zg_S) (hR : lw_R σ τ) (n : Nat) (hn : n + 6 ≤ L) (kk : ∀ (σ τ : zg_S), lw_R σ τ → ∀ (H : Heap) (locs : List Loc) (ls : Array Slot), zz_S D V A s (zg_W XL ad cA σ ++ zg_W ML am cM τ) (zg_T XL cA ++ zg_T ML cM) H locs → lv_has ls 4 [(3, .int (nI n)), (2, .ref (am 0)), (1, .ref (ad 0)), (0, .ref b)] → W p l e room_1 s m #[Value.ref b] below meth c H locs 208 13935 (lw_Z below #[Value.ref b] s) (F0 m 1381 ls [])) {H : Heap} {locs : List Loc} {ls : Array Slot} (Z : zz_S D V A s (zg_W XL ad cA σ ++ zg_W ML am cM τ) (zg_T XL cA ++ zg_T ML cM) H locs) (hl : lv_has ls 4 [(3, .int (nI n)), (2, .ref (am 0)), (1, .ref (ad 0)), (0, .ref b)]) : W p l e room_1 s m #[Value.ref b] below meth c H locs 208 13935 (lw_Z below #[Value.ref b] s) (F0 m 1220 ls []) := by
  obtain ⟨hx, hb, hr, hml, hown, hts, hX, hbl, hlocks, hgv⟩ := id C0
  have hts := fun w h => hts w (wsL_law_in w h)
  have X : CallFix p m c cL_law 4 s #[Value.ref b] wsL_law RL := ⟨hx, hb, hml, hown, hts⟩
  have hbA : ¬ A b := fun h => absurd (hAq b h) (Nat.not_le.mpr hbl)
  refine lv_aload_n hx hb dL_law_1220 rfl (lv_at hl 2 rfl) ?_
  refine lv_aload_n hx hb dL_law_1221 rfl (lv_at hl 3 rfl) ?_
  refine lv_iload_n hx hb dL_law_1222 rfl (lv_at hl 0 rfl) ?_
  refine lv_iconst (v := 1) hx hb dL_law_1223 (by decide) ?_
  refine lv_iadd hx hb dL_law_1224 ?_
  refine zz_v (v := nI (n + 1)) (lw_add n 1) ?_
  refine va_sld hx hb hX hbl hbA Z.2.2.2.1 (vp_in_nI (by omega) (by omega)) dL_law_1225 ?_
  refine zz_v (v := xs (n + 1)) (by rw [nI_clamp (by omega)]) ?_
  refine lv_aload_n hx hb dL_law_1226 rfl (lv_at hl 3 rfl) ?_
  refine lv_iload_n hx hb dL_law_1227 rfl (lv_at hl 0 rfl) ?_
  refine lv_iconst (v := 2) hx hb dL_law_1228 (by decide) ?_
  refine lv_iadd hx hb dL_law_1229 ?_
  refine zz_v (v := nI (n + 2)) (lw_add n 2) ?_
  refine va_sld hx hb hX hbl hbA Z.2.2.2.1 (vp_in_nI (by omega) (by omega)) dL_law_1230 ?_
  refine zz_v (v := xs (n + 2)) (by rw [nI_clamp (by omega)]) ?_
  obtain ⟨r1, σ1, r2, τ1, e1, e2, hR1, hq⟩ := st_item hR (xs (n + 1)) (xs (n + 2))
  refine zy_cf (WA := zg_W XL ad cA σ) (WB := zg_W ML am cM τ) (WA1 := zg_W XL ad cA σ1) (TA := zg_T XL cA) (TB := zg_T ML cM) (TA1 := zg_T XL cA) (r0 := r1) Z (fun Zc => va_runV (As := [.int (xs (n + 1)), .int (xs (n + 2))]) (rest := []) X (c_X6_item l D V ad cA (xs (n + 1)) (xs (n + 2)) σ r1 σ1 e1 H.size) (cwV 2 hts gL_law_X6_item rfl rfl rfl ⟨rfl, zh_X6_item⟩ ⟨Nat.le_of_ble_eq_true rfl, Nat.le_of_ble_eq_true rfl⟩) (zy_pV (ci := 6) Zc xL_ok xk_0 rfl rfl) rfl rfl hl.1 rfl (lv_room (Nat.le_of_ble_eq_true rfl)) dL_law_1231 ⟨Nat.le_of_ble_eq_true rfl, Nat.le_of_ble_eq_true rfl⟩) (fun H2 locs Z1 => ?_)
  clear Z
  refine lv_pop hx hb dL_law_1234 rfl ?_
  refine lv_aload_n hx hb dL_law_1235 rfl (lv_at hl 1 rfl) ?_
  refine lv_aload_n hx hb dL_law_1236 rfl (lv_at hl 3 rfl) ?_
  refine lv_iload_n hx hb dL_law_1237 rfl (lv_at hl 0 rfl) ?_
  refine lv_iconst (v := 1) hx hb dL_law_1238 (by decide) ?_
  refine lv_iadd hx hb dL_law_1239 ?_
  refine zz_v (v := nI (n + 1)) (lw_add n 1) ?_
  refine va_sld hx hb hX hbl hbA Z1.2.2.2.1 (vp_in_nI (by omega) (by omega)) dL_law_1240 ?_
  refine zz_v (v := xs (n + 1)) (by rw [nI_clamp (by omega)]) ?_
  refine lv_aload_n hx hb dL_law_1241 rfl (lv_at hl 3 rfl) ?_
  refine lv_iload_n hx hb dL_law_1242 rfl (lv_at hl 0 rfl) ?_
  refine lv_iconst (v := 2) hx hb dL_law_1243 (by decide) ?_
  refine lv_iadd hx hb dL_law_1244 ?_
  refine zz_v (v := nI (n + 2)) (lw_add n 2) ?_
  refine va_sld hx hb hX hbl hbA Z1.2.2.2.1 (vp_in_nI (by omega) (by omega)) dL_law_1245 ?_
  refine zz_v (v := xs (n + 2)) (by rw [nI_clamp (by omega)]) ?_
  refine zy_cf (WA := zg_W ML am cM τ) (WB := zg_W XL ad cA σ1) (WA1 := zg_W ML am cM τ1) (TA := zg_T ML cM) (TB := zg_T XL cA) (TA1 := zg_T ML cM) (r0 := r2) Z1 (fun Zc => va_runV (As := [.int (xs (n + 1)), .int (xs (n + 2))]) (rest := []) X (c_X7_item l D V am cM (xs (n + 1)) (xs (n + 2)) τ r2 τ1 e2 H2.size) (cwV 2 hts gL_law_X7_item rfl rfl rfl ⟨rfl, zh_X7_item⟩ ⟨Nat.le_of_ble_eq_true rfl, Nat.le_of_ble_eq_true rfl⟩) (zy_pV (ci := 7) Zc mL_ok mk_0 rfl rfl) rfl rfl hl.1 rfl (lv_room (Nat.le_of_ble_eq_true rfl)) dL_law_1246 ⟨Nat.le_of_ble_eq_true rfl, Nat.le_of_ble_eq_true rfl⟩) (fun H4 locs Z3 => ?_)
  clear Z1
  refine lv_pop hx hb dL_law_1249 rfl ?_
  refine lv_goto (tgt := 1381) hx hb dL_law_1250 (by decide) ?_
  exact kk σ1 τ1 hR1 _ _ _ Z3 hl
set_option maxHeartbeats 4000000 in
set_option maxRecDepth 100000 in
theorem law_case33 {p : Program} {l : Launch} {e : Env} {s : State} {m : MethodId} {below : List Frame} {meth : Method} {c : Code} {b L : Nat} {xs : Nat → Int32} (hL : L ≤ 3072) (C0 : lw_At p s m meth c b L xs) (D : va_G) (V : zz_V) (A : Nat → Prop) (hAq : ∀ q, A q → s.heap.size ≤ q) (ad am : Nat → Nat) (cA cM : Nat → ClassId) (σ τ : zg_S) (hR : lw_R σ τ) (n : Nat) (hn : n + 6 ≤ L) (kk : ∀ (σ τ : zg_S), lw_R σ τ → ∀ (H : Heap) (locs : List Loc) (ls : Array Slot), zz_S D V A s (zg_W XL ad cA σ ++ zg_W ML am cM τ) (zg_T XL cA ++ zg_T ML cM) H locs → lv_has ls 4 [(3, .int (nI n)), (2, .ref (am 0)), (1, .ref (ad 0)), (0, .ref b)] → W p l e room_1 s m #[Value.ref b] below meth c H locs 208 13935 (lw_Z below #[Value.ref b] s) (F0 m 1381 ls [])) {H : Heap} {locs : List Loc} {ls : Array Slot} (Z : zz_S D V A s (zg_W XL ad cA σ ++ zg_W ML am cM τ) (zg_T XL cA ++ zg_T ML cM) H locs) (hl : lv_has ls 4 [(3, .int (nI n)), (2, .ref (am 0)), (1, .ref (ad 0)), (0, .ref b)]) : W p l e room_1 s m #[Value.ref b] below meth c H locs 208 13935 (lw_Z below #[Value.ref b] s) (F0 m 1253 ls []) := by
  obtain ⟨hx, hb, hr, hml, hown, hts, hX, hbl, hlocks, hgv⟩ := id C0
  have hts := fun w h => hts w (wsL_law_in w h)
  have X : CallFix p m c cL_law 4 s #[Value.ref b] wsL_law RL := ⟨hx, hb, hml, hown, hts⟩
  have hbA : ¬ A b := fun h => absurd (hAq b h) (Nat.not_le.mpr hbl)
  refine lv_aload_n hx hb dL_law_1253 rfl (lv_at hl 2 rfl) ?_
  refine lv_aload_n hx hb dL_law_1254 rfl (lv_at hl 3 rfl) ?_
  refine lv_iload_n hx hb dL_law_1255 rfl (lv_at hl 0 rfl) ?_
  refine lv_iconst (v := 1) hx hb dL_law_1256 (by decide) ?_
  refine lv_iadd hx hb dL_law_1257 ?_
  refine zz_v (v := nI (n + 1)) (lw_add n 1) ?_
  refine va_sld hx hb hX hbl hbA Z.2.2.2.1 (vp_in_nI (by omega) (by omega)) dL_law_1258 ?_
  refine zz_v (v := xs (n + 1)) (by rw [nI_clamp (by omega)]) ?_
  refine lv_aload_n hx hb dL_law_1259 rfl (lv_at hl 3 rfl) ?_
  refine lv_iload_n hx hb dL_law_1260 rfl (lv_at hl 0 rfl) ?_
  refine lv_iconst (v := 2) hx hb dL_law_1261 (by decide) ?_
  refine lv_iadd hx hb dL_law_1262 ?_
  refine zz_v (v := nI (n + 2)) (lw_add n 2) ?_
  refine va_sld hx hb hX hbl hbA Z.2.2.2.1 (vp_in_nI (by omega) (by omega)) dL_law_1263 ?_
  refine zz_v (v := xs (n + 2)) (by rw [nI_clamp (by omega)]) ?_
  obtain ⟨r1, σ1, r2, τ1, e1, e2, hR1, hq⟩ := st_rest hR (xs (n + 1)) (xs (n + 2))
  refine zy_cf (WA := zg_W XL ad cA σ) (WB := zg_W ML am cM τ) (WA1 := zg_W XL ad cA σ1) (TA := zg_T XL cA) (TB := zg_T ML cM) (TA1 := zg_T XL cA) (r0 := r1) Z (fun Zc => va_runV (As := [.int (xs (n + 1)), .int (xs (n + 2))]) (rest := []) X (c_X6_rest l D V ad cA (xs (n + 1)) (xs (n + 2)) σ r1 σ1 e1 H.size) (cwV 2 hts gL_law_X6_rest rfl rfl rfl ⟨rfl, zh_X6_rest⟩ ⟨Nat.le_of_ble_eq_true rfl, Nat.le_of_ble_eq_true rfl⟩) (zy_pV (ci := 6) Zc xL_ok xk_0 rfl rfl) rfl rfl hl.1 rfl (lv_room (Nat.le_of_ble_eq_true rfl)) dL_law_1264 ⟨Nat.le_of_ble_eq_true rfl, Nat.le_of_ble_eq_true rfl⟩) (fun H2 locs Z1 => ?_)
  clear Z
  refine lv_pop hx hb dL_law_1267 rfl ?_
  refine lv_aload_n hx hb dL_law_1268 rfl (lv_at hl 1 rfl) ?_
  refine lv_aload_n hx hb dL_law_1269 rfl (lv_at hl 3 rfl) ?_
  refine lv_iload_n hx hb dL_law_1270 rfl (lv_at hl 0 rfl) ?_
  refine lv_iconst (v := 1) hx hb dL_law_1271 (by decide) ?_
  refine lv_iadd hx hb dL_law_1272 ?_
  refine zz_v (v := nI (n + 1)) (lw_add n 1) ?_
  refine va_sld hx hb hX hbl hbA Z1.2.2.2.1 (vp_in_nI (by omega) (by omega)) dL_law_1273 ?_
  refine zz_v (v := xs (n + 1)) (by rw [nI_clamp (by omega)]) ?_
  refine lv_aload_n hx hb dL_law_1274 rfl (lv_at hl 3 rfl) ?_
  refine lv_iload_n hx hb dL_law_1275 rfl (lv_at hl 0 rfl) ?_
  refine lv_iconst (v := 2) hx hb dL_law_1276 (by decide) ?_
  refine lv_iadd hx hb dL_law_1277 ?_
  refine zz_v (v := nI (n + 2)) (lw_add n 2) ?_
  refine va_sld hx hb hX hbl hbA Z1.2.2.2.1 (vp_in_nI (by omega) (by omega)) dL_law_1278 ?_
  refine zz_v (v := xs (n + 2)) (by rw [nI_clamp (by omega)]) ?_
  refine zy_cf (WA := zg_W ML am cM τ) (WB := zg_W XL ad cA σ1) (WA1 := zg_W ML am cM τ1) (TA := zg_T ML cM) (TB := zg_T XL cA) (TA1 := zg_T ML cM) (r0 := r2) Z1 (fun Zc => va_runV (As := [.int (xs (n + 1)), .int (xs (n + 2))]) (rest := []) X (c_X7_rest l D V am cM (xs (n + 1)) (xs (n + 2)) τ r2 τ1 e2 H2.size) (cwV 2 hts gL_law_X7_rest rfl rfl rfl ⟨rfl, zh_X7_rest⟩ ⟨Nat.le_of_ble_eq_true rfl, Nat.le_of_ble_eq_true rfl⟩) (zy_pV (ci := 7) Zc mL_ok mk_0 rfl rfl) rfl rfl hl.1 rfl (lv_room (Nat.le_of_ble_eq_true rfl)) dL_law_1279 ⟨Nat.le_of_ble_eq_true rfl, Nat.le_of_ble_eq_true rfl⟩) (fun H4 locs Z3 => ?_)
  clear Z1
  refine lv_pop hx hb dL_law_1282 rfl ?_
  refine lv_goto (tgt := 1381) hx hb dL_law_1283 (by decide) ?_
  exact kk σ1 τ1 hR1 _ _ _ Z3 hl
set_option maxHeartbeats 4000000 in
set_option maxRecDepth 100000 in
theorem law_case34 {p : Program} {l : Launch} {e : Env} {s : State} {m : MethodId} {below : List Frame} {meth : Method} {c : Code} {b L : Nat} {xs : Nat → Int32} (hL : L ≤ 3072) (C0 : lw_At p s m meth c b L xs) (D : va_G) (V : zz_V) (A : Nat → Prop) (hAq : ∀ q, A q → s.heap.size ≤ q) (ad am : Nat → Nat) (cA cM : Nat → ClassId) (σ τ : zg_S) (hR : lw_R σ τ) (n : Nat) (hn : n + 6 ≤ L) (kk : ∀ (σ τ : zg_S), lw_R σ τ → ∀ (H : Heap) (locs : List Loc) (ls : Array Slot), zz_S D V A s (zg_W XL ad cA σ ++ zg_W ML am cM τ) (zg_T XL cA ++ zg_T ML cM) H locs → lv_has ls 4 [(3, .int (nI n)), (2, .ref (am 0)), (1, .ref (ad 0)), (0, .ref b)] → W p l e room_1 s m #[Value.ref b] below meth c H locs 208 13935 (lw_Z below #[Value.ref b] s) (F0 m 1381 ls [])) {H : Heap} {locs : List Loc} {ls : Array Slot} (Z : zz_S D V A s (zg_W XL ad cA σ ++ zg_W ML am cM τ) (zg_T XL cA ++ zg_T ML cM) H locs) (hl : lv_has ls 4 [(3, .int (nI n)), (2, .ref (am 0)), (1, .ref (ad 0)), (0, .ref b)]) : W p l e room_1 s m #[Value.ref b] below meth c H locs 208 13935 (lw_Z below #[Value.ref b] s) (F0 m 1286 ls []) := by
  obtain ⟨hx, hb, hr, hml, hown, hts, hX, hbl, hlocks, hgv⟩ := id C0
  have hts := fun w h => hts w (wsL_law_in w h)
  have X : CallFix p m c cL_law 4 s #[Value.ref b] wsL_law RL := ⟨hx, hb, hml, hown, hts⟩
  have hbA : ¬ A b := fun h => absurd (hAq b h) (Nat.not_le.mpr hbl)
  refine lv_aload_n hx hb dL_law_1286 rfl (lv_at hl 2 rfl) ?_
  refine lv_aload_n hx hb dL_law_1287 rfl (lv_at hl 3 rfl) ?_
  refine lv_iload_n hx hb dL_law_1288 rfl (lv_at hl 0 rfl) ?_
  refine lv_iconst (v := 1) hx hb dL_law_1289 (by decide) ?_
  refine lv_iadd hx hb dL_law_1290 ?_
  refine zz_v (v := nI (n + 1)) (lw_add n 1) ?_
  refine va_sld hx hb hX hbl hbA Z.2.2.2.1 (vp_in_nI (by omega) (by omega)) dL_law_1291 ?_
  refine zz_v (v := xs (n + 1)) (by rw [nI_clamp (by omega)]) ?_
  obtain ⟨r1, σ1, r2, τ1, e1, e2, hR1, hq⟩ := st_tell hR (xs (n + 1))
  refine zy_cf (WA := zg_W XL ad cA σ) (WB := zg_W ML am cM τ) (WA1 := zg_W XL ad cA σ1) (TA := zg_T XL cA) (TB := zg_T ML cM) (TA1 := zg_T XL cA) (r0 := r1) Z (fun Zc => va_runV (As := [.int (xs (n + 1))]) (rest := []) X (c_X6_tell l D V ad cA (xs (n + 1)) σ r1 σ1 e1 H.size) (cwV 1 hts gL_law_X6_tell rfl rfl rfl ⟨rfl, zh_X6_tell⟩ ⟨Nat.le_of_ble_eq_true rfl, Nat.le_of_ble_eq_true rfl⟩) (zy_pV (ci := 6) Zc xL_ok xk_0 rfl rfl) rfl rfl hl.1 rfl (lv_room (Nat.le_of_ble_eq_true rfl)) dL_law_1292 ⟨Nat.le_of_ble_eq_true rfl, Nat.le_of_ble_eq_true rfl⟩) (fun H2 locs Z1 => ?_)
  clear Z
  refine lv_pop hx hb dL_law_1295 rfl ?_
  refine lv_aload_n hx hb dL_law_1296 rfl (lv_at hl 1 rfl) ?_
  refine lv_aload_n hx hb dL_law_1297 rfl (lv_at hl 3 rfl) ?_
  refine lv_iload_n hx hb dL_law_1298 rfl (lv_at hl 0 rfl) ?_
  refine lv_iconst (v := 1) hx hb dL_law_1299 (by decide) ?_
  refine lv_iadd hx hb dL_law_1300 ?_
  refine zz_v (v := nI (n + 1)) (lw_add n 1) ?_
  refine va_sld hx hb hX hbl hbA Z1.2.2.2.1 (vp_in_nI (by omega) (by omega)) dL_law_1301 ?_
  refine zz_v (v := xs (n + 1)) (by rw [nI_clamp (by omega)]) ?_
  refine zy_cf (WA := zg_W ML am cM τ) (WB := zg_W XL ad cA σ1) (WA1 := zg_W ML am cM τ1) (TA := zg_T ML cM) (TB := zg_T XL cA) (TA1 := zg_T ML cM) (r0 := r2) Z1 (fun Zc => va_runV (As := [.int (xs (n + 1))]) (rest := []) X (c_X7_tell l D V am cM (xs (n + 1)) τ r2 τ1 e2 H2.size) (cwV 1 hts gL_law_X7_tell rfl rfl rfl ⟨rfl, zh_X7_tell⟩ ⟨Nat.le_of_ble_eq_true rfl, Nat.le_of_ble_eq_true rfl⟩) (zy_pV (ci := 7) Zc mL_ok mk_0 rfl rfl) rfl rfl hl.1 rfl (lv_room (Nat.le_of_ble_eq_true rfl)) dL_law_1302 ⟨Nat.le_of_ble_eq_true rfl, Nat.le_of_ble_eq_true rfl⟩) (fun H4 locs Z3 => ?_)
  clear Z1
  refine lv_pop hx hb dL_law_1305 rfl ?_
  refine lv_goto (tgt := 1381) hx hb dL_law_1306 (by decide) ?_
  exact kk σ1 τ1 hR1 _ _ _ Z3 hl
set_option maxHeartbeats 4000000 in
set_option maxRecDepth 100000 in
theorem law_case35 {p : Program} {l : Launch} {e : Env} {s : State} {m : MethodId} {below : List Frame} {meth : Method} {c : Code} {b L : Nat} {xs : Nat → Int32} (hL : L ≤ 3072) (C0 : lw_At p s m meth c b L xs) (D : va_G) (V : zz_V) (A : Nat → Prop) (hAq : ∀ q, A q → s.heap.size ≤ q) (ad am : Nat → Nat) (cA cM : Nat → ClassId) (σ τ : zg_S) (hR : lw_R σ τ) (n : Nat) (hn : n + 6 ≤ L) (kk : ∀ (σ τ : zg_S), lw_R σ τ → ∀ (H : Heap) (locs : List Loc) (ls : Array Slot), zz_S D V A s (zg_W XL ad cA σ ++ zg_W ML am cM τ) (zg_T XL cA ++ zg_T ML cM) H locs → lv_has ls 4 [(3, .int (nI n)), (2, .ref (am 0)), (1, .ref (ad 0)), (0, .ref b)] → W p l e room_1 s m #[Value.ref b] below meth c H locs 208 13935 (lw_Z below #[Value.ref b] s) (F0 m 1381 ls [])) {H : Heap} {locs : List Loc} {ls : Array Slot} (Z : zz_S D V A s (zg_W XL ad cA σ ++ zg_W ML am cM τ) (zg_T XL cA ++ zg_T ML cM) H locs) (hl : lv_has ls 4 [(3, .int (nI n)), (2, .ref (am 0)), (1, .ref (ad 0)), (0, .ref b)]) : W p l e room_1 s m #[Value.ref b] below meth c H locs 208 13935 (lw_Z below #[Value.ref b] s) (F0 m 1309 ls []) := by
  obtain ⟨hx, hb, hr, hml, hown, hts, hX, hbl, hlocks, hgv⟩ := id C0
  have hts := fun w h => hts w (wsL_law_in w h)
  have X : CallFix p m c cL_law 4 s #[Value.ref b] wsL_law RL := ⟨hx, hb, hml, hown, hts⟩
  have hbA : ¬ A b := fun h => absurd (hAq b h) (Nat.not_le.mpr hbl)
  refine lv_aload_n hx hb dL_law_1309 rfl (lv_at hl 2 rfl) ?_
  refine lv_aload_n hx hb dL_law_1310 rfl (lv_at hl 3 rfl) ?_
  refine lv_iload_n hx hb dL_law_1311 rfl (lv_at hl 0 rfl) ?_
  refine lv_iconst (v := 1) hx hb dL_law_1312 (by decide) ?_
  refine lv_iadd hx hb dL_law_1313 ?_
  refine zz_v (v := nI (n + 1)) (lw_add n 1) ?_
  refine va_sld hx hb hX hbl hbA Z.2.2.2.1 (vp_in_nI (by omega) (by omega)) dL_law_1314 ?_
  refine zz_v (v := xs (n + 1)) (by rw [nI_clamp (by omega)]) ?_
  obtain ⟨r1, σ1, r2, τ1, e1, e2, hR1, hq⟩ := st_check hR (xs (n + 1))
  refine zy_cf (WA := zg_W XL ad cA σ) (WB := zg_W ML am cM τ) (WA1 := zg_W XL ad cA σ1) (TA := zg_T XL cA) (TB := zg_T ML cM) (TA1 := zg_T XL cA) (r0 := r1) Z (fun Zc => va_runV (As := [.int (xs (n + 1))]) (rest := []) X (c_X6_check l D V ad cA (xs (n + 1)) σ r1 σ1 e1 H.size) (cwV 1 hts gL_law_X6_check rfl rfl rfl ⟨rfl, zh_X6_check⟩ ⟨Nat.le_of_ble_eq_true rfl, Nat.le_of_ble_eq_true rfl⟩) (zy_pV (ci := 6) Zc xL_ok xk_0 rfl rfl) rfl rfl hl.1 rfl (lv_room (Nat.le_of_ble_eq_true rfl)) dL_law_1315 ⟨Nat.le_of_ble_eq_true rfl, Nat.le_of_ble_eq_true rfl⟩) (fun H2 locs Z1 => ?_)
  clear Z
  refine lv_pop hx hb dL_law_1318 rfl ?_
  refine lv_aload_n hx hb dL_law_1319 rfl (lv_at hl 1 rfl) ?_
  refine lv_aload_n hx hb dL_law_1320 rfl (lv_at hl 3 rfl) ?_
  refine lv_iload_n hx hb dL_law_1321 rfl (lv_at hl 0 rfl) ?_
  refine lv_iconst (v := 1) hx hb dL_law_1322 (by decide) ?_
  refine lv_iadd hx hb dL_law_1323 ?_
  refine zz_v (v := nI (n + 1)) (lw_add n 1) ?_
  refine va_sld hx hb hX hbl hbA Z1.2.2.2.1 (vp_in_nI (by omega) (by omega)) dL_law_1324 ?_
  refine zz_v (v := xs (n + 1)) (by rw [nI_clamp (by omega)]) ?_
  refine zy_cf (WA := zg_W ML am cM τ) (WB := zg_W XL ad cA σ1) (WA1 := zg_W ML am cM τ1) (TA := zg_T ML cM) (TB := zg_T XL cA) (TA1 := zg_T ML cM) (r0 := r2) Z1 (fun Zc => va_runV (As := [.int (xs (n + 1))]) (rest := []) X (c_X7_check l D V am cM (xs (n + 1)) τ r2 τ1 e2 H2.size) (cwV 1 hts gL_law_X7_check rfl rfl rfl ⟨rfl, zh_X7_check⟩ ⟨Nat.le_of_ble_eq_true rfl, Nat.le_of_ble_eq_true rfl⟩) (zy_pV (ci := 7) Zc mL_ok mk_0 rfl rfl) rfl rfl hl.1 rfl (lv_room (Nat.le_of_ble_eq_true rfl)) dL_law_1325 ⟨Nat.le_of_ble_eq_true rfl, Nat.le_of_ble_eq_true rfl⟩) (fun H4 locs Z3 => ?_)
  clear Z1
  refine lv_pop hx hb dL_law_1328 rfl ?_
  refine lv_goto (tgt := 1381) hx hb dL_law_1329 (by decide) ?_
  exact kk σ1 τ1 hR1 _ _ _ Z3 hl
set_option maxHeartbeats 4000000 in
set_option maxRecDepth 100000 in
theorem law_case36 {p : Program} {l : Launch} {e : Env} {s : State} {m : MethodId} {below : List Frame} {meth : Method} {c : Code} {b L : Nat} {xs : Nat → Int32} (hL : L ≤ 3072) (C0 : lw_At p s m meth c b L xs) (D : va_G) (V : zz_V) (A : Nat → Prop) (hAq : ∀ q, A q → s.heap.size ≤ q) (ad am : Nat → Nat) (cA cM : Nat → ClassId) (σ τ : zg_S) (hR : lw_R σ τ) (n : Nat) (hn : n + 6 ≤ L) (kk : ∀ (σ τ : zg_S), lw_R σ τ → ∀ (H : Heap) (locs : List Loc) (ls : Array Slot), zz_S D V A s (zg_W XL ad cA σ ++ zg_W ML am cM τ) (zg_T XL cA ++ zg_T ML cM) H locs → lv_has ls 4 [(3, .int (nI n)), (2, .ref (am 0)), (1, .ref (ad 0)), (0, .ref b)] → W p l e room_1 s m #[Value.ref b] below meth c H locs 208 13935 (lw_Z below #[Value.ref b] s) (F0 m 1381 ls [])) {H : Heap} {locs : List Loc} {ls : Array Slot} (Z : zz_S D V A s (zg_W XL ad cA σ ++ zg_W ML am cM τ) (zg_T XL cA ++ zg_T ML cM) H locs) (hl : lv_has ls 4 [(3, .int (nI n)), (2, .ref (am 0)), (1, .ref (ad 0)), (0, .ref b)]) : W p l e room_1 s m #[Value.ref b] below meth c H locs 208 13935 (lw_Z below #[Value.ref b] s) (F0 m 1332 ls []) := by
  obtain ⟨hx, hb, hr, hml, hown, hts, hX, hbl, hlocks, hgv⟩ := id C0
  have hts := fun w h => hts w (wsL_law_in w h)
  have X : CallFix p m c cL_law 4 s #[Value.ref b] wsL_law RL := ⟨hx, hb, hml, hown, hts⟩
  have hbA : ¬ A b := fun h => absurd (hAq b h) (Nat.not_le.mpr hbl)
  refine lv_aload_n hx hb dL_law_1332 rfl (lv_at hl 2 rfl) ?_
  obtain ⟨r1, σ1, r2, τ1, e1, e2, hR1, hq⟩ := st_keep hR 
  refine zy_cf (WA := zg_W XL ad cA σ) (WB := zg_W ML am cM τ) (WA1 := zg_W XL ad cA σ1) (TA := zg_T XL cA) (TB := zg_T ML cM) (TA1 := zg_T XL cA) (r0 := r1) Z (fun Zc => va_runV (As := []) (rest := []) X (c_X6_keep l D V ad cA  σ r1 σ1 e1 H.size) (cwV 0 hts gL_law_X6_keep rfl rfl rfl ⟨rfl, zh_X6_keep⟩ ⟨Nat.le_of_ble_eq_true rfl, Nat.le_of_ble_eq_true rfl⟩) (zy_pV (ci := 6) Zc xL_ok xk_0 rfl rfl) rfl rfl hl.1 rfl (lv_room (Nat.le_of_ble_eq_true rfl)) dL_law_1333 ⟨Nat.le_of_ble_eq_true rfl, Nat.le_of_ble_eq_true rfl⟩) (fun H2 locs Z1 => ?_)
  clear Z
  refine lv_pop hx hb dL_law_1336 rfl ?_
  refine lv_aload_n hx hb dL_law_1337 rfl (lv_at hl 1 rfl) ?_
  refine zy_cf (WA := zg_W ML am cM τ) (WB := zg_W XL ad cA σ1) (WA1 := zg_W ML am cM τ1) (TA := zg_T ML cM) (TB := zg_T XL cA) (TA1 := zg_T ML cM) (r0 := r2) Z1 (fun Zc => va_runV (As := []) (rest := []) X (c_X7_keep l D V am cM  τ r2 τ1 e2 H2.size) (cwV 0 hts gL_law_X7_keep rfl rfl rfl ⟨rfl, zh_X7_keep⟩ ⟨Nat.le_of_ble_eq_true rfl, Nat.le_of_ble_eq_true rfl⟩) (zy_pV (ci := 7) Zc mL_ok mk_0 rfl rfl) rfl rfl hl.1 rfl (lv_room (Nat.le_of_ble_eq_true rfl)) dL_law_1338 ⟨Nat.le_of_ble_eq_true rfl, Nat.le_of_ble_eq_true rfl⟩) (fun H4 locs Z3 => ?_)
  clear Z1
  refine lv_pop hx hb dL_law_1341 rfl ?_
  refine lv_goto (tgt := 1381) hx hb dL_law_1342 (by decide) ?_
  exact kk σ1 τ1 hR1 _ _ _ Z3 hl
set_option maxHeartbeats 4000000 in
set_option maxRecDepth 100000 in
theorem law_case37 {p : Program} {l : Launch} {e : Env} {s : State} {m : MethodId} {below : List Frame} {meth : Method} {c : Code} {b L : Nat} {xs : Nat → Int32} (hL : L ≤ 3072) (C0 : lw_At p s m meth c b L xs) (D : va_G) (V : zz_V) (A : Nat → Prop) (hAq : ∀ q, A q → s.heap.size ≤ q) (ad am : Nat → Nat) (cA cM : Nat → ClassId) (σ τ : zg_S) (hR : lw_R σ τ) (n : Nat) (hn : n + 6 ≤ L) (kk : ∀ (σ τ : zg_S), lw_R σ τ → ∀ (H : Heap) (locs : List Loc) (ls : Array Slot), zz_S D V A s (zg_W XL ad cA σ ++ zg_W ML am cM τ) (zg_T XL cA ++ zg_T ML cM) H locs → lv_has ls 4 [(3, .int (nI n)), (2, .ref (am 0)), (1, .ref (ad 0)), (0, .ref b)] → W p l e room_1 s m #[Value.ref b] below meth c H locs 208 13935 (lw_Z below #[Value.ref b] s) (F0 m 1381 ls [])) {H : Heap} {locs : List Loc} {ls : Array Slot} (Z : zz_S D V A s (zg_W XL ad cA σ ++ zg_W ML am cM τ) (zg_T XL cA ++ zg_T ML cM) H locs) (hl : lv_has ls 4 [(3, .int (nI n)), (2, .ref (am 0)), (1, .ref (ad 0)), (0, .ref b)]) : W p l e room_1 s m #[Value.ref b] below meth c H locs 208 13935 (lw_Z below #[Value.ref b] s) (F0 m 1345 ls []) := by
  obtain ⟨hx, hb, hr, hml, hown, hts, hX, hbl, hlocks, hgv⟩ := id C0
  have hts := fun w h => hts w (wsL_law_in w h)
  have X : CallFix p m c cL_law 4 s #[Value.ref b] wsL_law RL := ⟨hx, hb, hml, hown, hts⟩
  have hbA : ¬ A b := fun h => absurd (hAq b h) (Nat.not_le.mpr hbl)
  refine lv_aload_n hx hb dL_law_1345 rfl (lv_at hl 2 rfl) ?_
  obtain ⟨r1, σ1, r2, τ1, e1, e2, hR1, hq⟩ := st_back hR 
  refine zy_cf (WA := zg_W XL ad cA σ) (WB := zg_W ML am cM τ) (WA1 := zg_W XL ad cA σ1) (TA := zg_T XL cA) (TB := zg_T ML cM) (TA1 := zg_T XL cA) (r0 := r1) Z (fun Zc => va_runV (As := []) (rest := []) X (c_X6_back l D V ad cA  σ r1 σ1 e1 H.size) (cwV 0 hts gL_law_X6_back rfl rfl rfl ⟨rfl, zh_X6_back⟩ ⟨Nat.le_of_ble_eq_true rfl, Nat.le_of_ble_eq_true rfl⟩) (zy_pV (ci := 6) Zc xL_ok xk_0 rfl rfl) rfl rfl hl.1 rfl (lv_room (Nat.le_of_ble_eq_true rfl)) dL_law_1346 ⟨Nat.le_of_ble_eq_true rfl, Nat.le_of_ble_eq_true rfl⟩) (fun H2 locs Z1 => ?_)
  clear Z
  refine lv_pop hx hb dL_law_1349 rfl ?_
  refine lv_aload_n hx hb dL_law_1350 rfl (lv_at hl 1 rfl) ?_
  refine zy_cf (WA := zg_W ML am cM τ) (WB := zg_W XL ad cA σ1) (WA1 := zg_W ML am cM τ1) (TA := zg_T ML cM) (TB := zg_T XL cA) (TA1 := zg_T ML cM) (r0 := r2) Z1 (fun Zc => va_runV (As := []) (rest := []) X (c_X7_back l D V am cM  τ r2 τ1 e2 H2.size) (cwV 0 hts gL_law_X7_back rfl rfl rfl ⟨rfl, zh_X7_back⟩ ⟨Nat.le_of_ble_eq_true rfl, Nat.le_of_ble_eq_true rfl⟩) (zy_pV (ci := 7) Zc mL_ok mk_0 rfl rfl) rfl rfl hl.1 rfl (lv_room (Nat.le_of_ble_eq_true rfl)) dL_law_1351 ⟨Nat.le_of_ble_eq_true rfl, Nat.le_of_ble_eq_true rfl⟩) (fun H4 locs Z3 => ?_)
  clear Z1
  refine lv_pop hx hb dL_law_1354 rfl ?_
  refine lv_goto (tgt := 1381) hx hb dL_law_1355 (by decide) ?_
  exact kk σ1 τ1 hR1 _ _ _ Z3 hl
set_option maxHeartbeats 4000000 in
set_option maxRecDepth 100000 in
theorem law_case38 {p : Program} {l : Launch} {e : Env} {s : State} {m : MethodId} {below : List Frame} {meth : Method} {c : Code} {b L : Nat} {xs : Nat → Int32} (hL : L ≤ 3072) (C0 : lw_At p s m meth c b L xs) (D : va_G) (V : zz_V) (A : Nat → Prop) (hAq : ∀ q, A q → s.heap.size ≤ q) (ad am : Nat → Nat) (cA cM : Nat → ClassId) (σ τ : zg_S) (hR : lw_R σ τ) (n : Nat) (hn : n + 6 ≤ L) (kk : ∀ (σ τ : zg_S), lw_R σ τ → ∀ (H : Heap) (locs : List Loc) (ls : Array Slot), zz_S D V A s (zg_W XL ad cA σ ++ zg_W ML am cM τ) (zg_T XL cA ++ zg_T ML cM) H locs → lv_has ls 4 [(3, .int (nI n)), (2, .ref (am 0)), (1, .ref (ad 0)), (0, .ref b)] → W p l e room_1 s m #[Value.ref b] below meth c H locs 208 13935 (lw_Z below #[Value.ref b] s) (F0 m 1381 ls [])) {H : Heap} {locs : List Loc} {ls : Array Slot} (Z : zz_S D V A s (zg_W XL ad cA σ ++ zg_W ML am cM τ) (zg_T XL cA ++ zg_T ML cM) H locs) (hl : lv_has ls 4 [(3, .int (nI n)), (2, .ref (am 0)), (1, .ref (ad 0)), (0, .ref b)]) : W p l e room_1 s m #[Value.ref b] below meth c H locs 208 13935 (lw_Z below #[Value.ref b] s) (F0 m 1358 ls []) := by
  obtain ⟨hx, hb, hr, hml, hown, hts, hX, hbl, hlocks, hgv⟩ := id C0
  have hts := fun w h => hts w (wsL_law_in w h)
  have X : CallFix p m c cL_law 4 s #[Value.ref b] wsL_law RL := ⟨hx, hb, hml, hown, hts⟩
  have hbA : ¬ A b := fun h => absurd (hAq b h) (Nat.not_le.mpr hbl)
  refine lv_aload_n hx hb dL_law_1358 rfl (lv_at hl 2 rfl) ?_
  refine lv_aload_n hx hb dL_law_1359 rfl (lv_at hl 3 rfl) ?_
  refine lv_iload_n hx hb dL_law_1360 rfl (lv_at hl 0 rfl) ?_
  refine lv_iconst (v := 1) hx hb dL_law_1361 (by decide) ?_
  refine lv_iadd hx hb dL_law_1362 ?_
  refine zz_v (v := nI (n + 1)) (lw_add n 1) ?_
  refine va_sld hx hb hX hbl hbA Z.2.2.2.1 (vp_in_nI (by omega) (by omega)) dL_law_1363 ?_
  refine zz_v (v := xs (n + 1)) (by rw [nI_clamp (by omega)]) ?_
  obtain ⟨r1, σ1, r2, τ1, e1, e2, hR1, hq⟩ := st_count hR (xs (n + 1))
  refine zy_cf (WA := zg_W XL ad cA σ) (WB := zg_W ML am cM τ) (WA1 := zg_W XL ad cA σ1) (TA := zg_T XL cA) (TB := zg_T ML cM) (TA1 := zg_T XL cA) (r0 := r1) Z (fun Zc => va_runV (As := [.int (xs (n + 1))]) (rest := []) X (c_X6_count l D V ad cA (xs (n + 1)) σ r1 σ1 e1 H.size) (cwV 1 hts gL_law_X6_count rfl rfl rfl ⟨rfl, zh_X6_count⟩ ⟨Nat.le_of_ble_eq_true rfl, Nat.le_of_ble_eq_true rfl⟩) (zy_pV (ci := 6) Zc xL_ok xk_0 rfl rfl) rfl rfl hl.1 rfl (lv_room (Nat.le_of_ble_eq_true rfl)) dL_law_1364 ⟨Nat.le_of_ble_eq_true rfl, Nat.le_of_ble_eq_true rfl⟩) (fun H2 locs Z1 => ?_)
  clear Z
  refine lv_aload_n hx hb dL_law_1367 rfl (lv_at hl 1 rfl) ?_
  refine lv_aload_n hx hb dL_law_1368 rfl (lv_at hl 3 rfl) ?_
  refine lv_iload_n hx hb dL_law_1369 rfl (lv_at hl 0 rfl) ?_
  refine lv_iconst (v := 1) hx hb dL_law_1370 (by decide) ?_
  refine lv_iadd hx hb dL_law_1371 ?_
  refine zz_v (v := nI (n + 1)) (lw_add n 1) ?_
  refine va_sld hx hb hX hbl hbA Z1.2.2.2.1 (vp_in_nI (by omega) (by omega)) dL_law_1372 ?_
  refine zz_v (v := xs (n + 1)) (by rw [nI_clamp (by omega)]) ?_
  refine zy_cf (WA := zg_W ML am cM τ) (WB := zg_W XL ad cA σ1) (WA1 := zg_W ML am cM τ1) (TA := zg_T ML cM) (TB := zg_T XL cA) (TA1 := zg_T ML cM) (r0 := r2) Z1 (fun Zc => va_runV (As := [.int (xs (n + 1))]) (rest := [.int r1]) X (c_X7_count l D V am cM (xs (n + 1)) τ r2 τ1 e2 H2.size) (cwV 1 hts gL_law_X7_count rfl rfl rfl ⟨rfl, zh_X7_count⟩ ⟨Nat.le_of_ble_eq_true rfl, Nat.le_of_ble_eq_true rfl⟩) (zy_pV (ci := 7) Zc mL_ok mk_0 rfl rfl) rfl rfl hl.1 rfl (lv_room (Nat.le_of_ble_eq_true rfl)) dL_law_1373 ⟨Nat.le_of_ble_eq_true rfl, Nat.le_of_ble_eq_true rfl⟩) (fun H4 locs Z3 => ?_)
  clear Z1
  refine lv_icmp_eq (tgt := 1381) hx hb dL_law_1376 (by decide) (fun _ => ?_) (fun h => absurd hq h)
  exact kk σ1 τ1 hR1 _ _ _ Z3 hl
