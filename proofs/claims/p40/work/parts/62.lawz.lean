theorem lw_len (L : Nat) (h : L ≤ 3072) : (Int32.ofNat L - 6).toInt = (L : Int) - 6 := by
  have e1 : (Int32.ofNat L).toInt = (L : Int) := nI_toInt (by omega)
  have e2 : (6 : Int32).toInt = 6 := by decide
  rw [Int32.toInt_sub, e1, e2, Int.bmod_def]
  split <;> omega
set_option maxHeartbeats 4000000 in
set_option maxRecDepth 100000 in
theorem law_loop {p : Program} {l : Launch} {e : Env} {s : State} {m : MethodId} {below : List Frame} {meth : Method} {c : Code} {b L : Nat} {xs : Nat → Int32} (hL : L ≤ 3072) (C0 : lw_At p s m meth c b L xs) (D : va_G) (V : zz_V) (A : Nat → Prop) (hAq : ∀ q, A q → s.heap.size ≤ q) (ad am : Nat → Nat) (cA cM : Nat → ClassId) : ∀ (k n : Nat), L ≤ n + k → n ≤ 3072 + 6 → ∀ (σ τ : zg_S), lw_R σ τ → ∀ (H : Heap) (locs : List Loc) (ls : Array Slot), zz_S D V A s (zg_W XL ad cA σ ++ zg_W ML am cM τ) (zg_T XL cA ++ zg_T ML cM) H locs → lv_has ls 4 [(3, .int (nI n)), (2, .ref (am 0)), (1, .ref (ad 0)), (0, .ref b)] → W p l e room_1 s m #[Value.ref b] below meth c H locs 208 13935 (lw_Z below #[Value.ref b] s) (F0 m 18 ls []) := by
  obtain ⟨hx, hb, hr, hml, hown, hts, hX, hbl, hlocks, hgv⟩ := id C0
  have hts := fun w h => hts w (wsL_law_in w h)
  have X : CallFix p m c cL_law 4 s #[Value.ref b] wsL_law RL := ⟨hx, hb, hml, hown, hts⟩
  have hbA : ¬ A b := fun h => absurd (hAq b h) (Nat.not_le.mpr hbl)
  intro k
  induction k using Nat.strongRecOn with
  | _ k ih =>
    intro n hk hn0 σ τ hR H locs ls Z hl
    refine lv_iload_n hx hb dL_law_18 rfl (lv_at hl 0 rfl) ?_
    refine lv_aload_n hx hb dL_law_19 rfl (lv_at hl 3 rfl) ?_
    refine va_slen hx hb hX hbl hbA Z.2.2.2.1 dL_law_20 ?_
    refine lv_bipush (v := 6) hx hb dL_law_21 (by decide) ?_
    refine lv_isub hx hb dL_law_23 ?_
    refine lv_icmp_gt (tgt := 1387) hx hb dL_law_24 (by decide) (fun h => ?_) (fun h => ?_)
    · refine lv_iconst (v := 1) hx hb dL_law_1387 (by decide) ?_
      refine va_forget (fun q hq => hAq _ (Z.2.2.2.1.2.2 q hq)) ?_
      refine W.widen (k := 600000) (n := 7302250) (Nat.le_of_ble_eq_true rfl) (Nat.le_of_ble_eq_true rfl) ?_
      exact lw_ret hx hb hr hlocks dL_law_1388
    · have hn : n + 6 ≤ L := by
        have h1 := Int32.not_lt.mp h
        rw [Int32.le_iff_toInt_le, lw_len L hL, nI_toInt (by omega)] at h1
        omega
      refine lv_aload_n hx hb dL_law_27 rfl (lv_at hl 3 rfl) ?_
      refine lv_iload_n hx hb dL_law_28 rfl (lv_at hl 0 rfl) ?_
      refine va_sld hx hb hX hbl hbA Z.2.2.2.1 (vp_in_nI (by omega) (by omega)) dL_law_29 ?_
      refine lv_bipush (v := 63) hx hb dL_law_30 (by decide) ?_
      refine lv_iand hx hb dL_law_32 ?_
      have tail : ∀ (σ τ : zg_S), lw_R σ τ → ∀ (H : Heap) (locs : List Loc) (ls : Array Slot), zz_S D V A s (zg_W XL ad cA σ ++ zg_W ML am cM τ) (zg_T XL cA ++ zg_T ML cM) H locs → lv_has ls 4 [(3, .int (nI n)), (2, .ref (am 0)), (1, .ref (ad 0)), (0, .ref b)] → W p l e room_1 s m #[Value.ref b] below meth c H locs 208 13935 (lw_Z below #[Value.ref b] s) (F0 m 1381 ls []) := by
        intro σ τ hR H locs ls Z hl
        refine lv_iinc (v := nI (n + 6)) (lv' := [(3, .int (nI (n + 6))), (2, .ref (am 0)), (1, .ref (ad 0)), (0, .ref b)]) hx hb dL_law_1381 hl (k := 0) rfl (lw_add n 6) (by decide) rfl (fun ls hl => ?_)
        refine lv_goto (tgt := 18) hx hb dL_law_1384 (by decide) ?_
        exact ih (k - 6) (by omega) (n + 6) (by omega) (by omega) σ τ hR H locs ls Z hl
      obtain ⟨j, hj, ej⟩ := pk_andE (xs (nI n).toNatClampNeg) (m := 63) 6 (by decide)
      refine zz_v ej ?_
      rcases Nat.lt_or_ge j 39 with hj9 | hj9
      · rcases (show j = 0 ∨ j = 1 ∨ j = 2 ∨ j = 3 ∨ j = 4 ∨ j = 5 ∨ j = 6 ∨ j = 7 ∨ j = 8 ∨ j = 9 ∨ j = 10 ∨ j = 11 ∨ j = 12 ∨ j = 13 ∨ j = 14 ∨ j = 15 ∨ j = 16 ∨ j = 17 ∨ j = 18 ∨ j = 19 ∨ j = 20 ∨ j = 21 ∨ j = 22 ∨ j = 23 ∨ j = 24 ∨ j = 25 ∨ j = 26 ∨ j = 27 ∨ j = 28 ∨ j = 29 ∨ j = 30 ∨ j = 31 ∨ j = 32 ∨ j = 33 ∨ j = 34 ∨ j = 35 ∨ j = 36 ∨ j = 37 ∨ j = 38 by omega) with rfl | rfl | rfl | rfl | rfl | rfl | rfl | rfl | rfl | rfl | rfl | rfl | rfl | rfl | rfl | rfl | rfl | rfl | rfl | rfl | rfl | rfl | rfl | rfl | rfl | rfl | rfl | rfl | rfl | rfl | rfl | rfl | rfl | rfl | rfl | rfl | rfl | rfl | rfl
        · refine lv_tableIn (x := 0) (off := 171) (tgt := 204) hx hb dL_law_33 (by decide) (by decide) rfl (by decide) ?_
          exact law_case0 hL C0 D V A hAq ad am cA cM σ τ hR n hn tail Z hl
        · refine lv_tableIn (x := 1) (off := 214) (tgt := 247) hx hb dL_law_33 (by decide) (by decide) rfl (by decide) ?_
          exact law_case1 hL C0 D V A hAq ad am cA cM σ τ hR n hn tail Z hl
        · refine lv_tableIn (x := 2) (off := 247) (tgt := 280) hx hb dL_law_33 (by decide) (by decide) rfl (by decide) ?_
          exact law_case2 hL C0 D V A hAq ad am cA cM σ τ hR n hn tail Z hl
        · refine lv_tableIn (x := 3) (off := 280) (tgt := 313) hx hb dL_law_33 (by decide) (by decide) rfl (by decide) ?_
          exact law_case3 hL C0 D V A hAq ad am cA cM σ τ hR n hn tail Z hl
        · refine lv_tableIn (x := 4) (off := 313) (tgt := 346) hx hb dL_law_33 (by decide) (by decide) rfl (by decide) ?_
          exact law_case4 hL C0 D V A hAq ad am cA cM σ τ hR n hn tail Z hl
        · refine lv_tableIn (x := 5) (off := 356) (tgt := 389) hx hb dL_law_33 (by decide) (by decide) rfl (by decide) ?_
          exact law_case5 hL C0 D V A hAq ad am cA cM σ τ hR n hn tail Z hl
        · refine lv_tableIn (x := 6) (off := 379) (tgt := 412) hx hb dL_law_33 (by decide) (by decide) rfl (by decide) ?_
          exact law_case6 hL C0 D V A hAq ad am cA cM σ τ hR n hn tail Z hl
        · refine lv_tableIn (x := 7) (off := 412) (tgt := 445) hx hb dL_law_33 (by decide) (by decide) rfl (by decide) ?_
          exact law_case7 hL C0 D V A hAq ad am cA cM σ τ hR n hn tail Z hl
        · refine lv_tableIn (x := 8) (off := 435) (tgt := 468) hx hb dL_law_33 (by decide) (by decide) rfl (by decide) ?_
          exact law_case8 hL C0 D V A hAq ad am cA cM σ τ hR n hn tail Z hl
        · refine lv_tableIn (x := 9) (off := 458) (tgt := 491) hx hb dL_law_33 (by decide) (by decide) rfl (by decide) ?_
          exact law_case9 hL C0 D V A hAq ad am cA cM σ τ hR n hn tail Z hl
        · refine lv_tableIn (x := 10) (off := 481) (tgt := 514) hx hb dL_law_33 (by decide) (by decide) rfl (by decide) ?_
          exact law_case10 hL C0 D V A hAq ad am cA cM σ τ hR n hn tail Z hl
        · refine lv_tableIn (x := 11) (off := 504) (tgt := 537) hx hb dL_law_33 (by decide) (by decide) rfl (by decide) ?_
          exact law_case11 hL C0 D V A hAq ad am cA cM σ τ hR n hn tail Z hl
        · refine lv_tableIn (x := 12) (off := 537) (tgt := 570) hx hb dL_law_33 (by decide) (by decide) rfl (by decide) ?_
          exact law_case12 hL C0 D V A hAq ad am cA cM σ τ hR n hn tail Z hl
        · refine lv_tableIn (x := 13) (off := 570) (tgt := 603) hx hb dL_law_33 (by decide) (by decide) rfl (by decide) ?_
          exact law_case13 hL C0 D V A hAq ad am cA cM σ τ hR n hn tail Z hl
        · refine lv_tableIn (x := 14) (off := 603) (tgt := 636) hx hb dL_law_33 (by decide) (by decide) rfl (by decide) ?_
          exact law_case14 hL C0 D V A hAq ad am cA cM σ τ hR n hn tail Z hl
        · refine lv_tableIn (x := 15) (off := 636) (tgt := 669) hx hb dL_law_33 (by decide) (by decide) rfl (by decide) ?_
          exact law_case15 hL C0 D V A hAq ad am cA cM σ τ hR n hn tail Z hl
        · refine lv_tableIn (x := 16) (off := 669) (tgt := 702) hx hb dL_law_33 (by decide) (by decide) rfl (by decide) ?_
          exact law_case16 hL C0 D V A hAq ad am cA cM σ τ hR n hn tail Z hl
        · refine lv_tableIn (x := 17) (off := 702) (tgt := 735) hx hb dL_law_33 (by decide) (by decide) rfl (by decide) ?_
          exact law_case17 hL C0 D V A hAq ad am cA cM σ τ hR n hn tail Z hl
        · refine lv_tableIn (x := 18) (off := 745) (tgt := 778) hx hb dL_law_33 (by decide) (by decide) rfl (by decide) ?_
          exact law_case18 hL C0 D V A hAq ad am cA cM σ τ hR n hn tail Z hl
        · refine lv_tableIn (x := 19) (off := 758) (tgt := 791) hx hb dL_law_33 (by decide) (by decide) rfl (by decide) ?_
          exact law_case19 hL C0 D V A hAq ad am cA cM σ τ hR n hn tail Z hl
        · refine lv_tableIn (x := 20) (off := 781) (tgt := 814) hx hb dL_law_33 (by decide) (by decide) rfl (by decide) ?_
          exact law_case20 hL C0 D V A hAq ad am cA cM σ τ hR n hn tail Z hl
        · refine lv_tableIn (x := 21) (off := 824) (tgt := 857) hx hb dL_law_33 (by decide) (by decide) rfl (by decide) ?_
          exact law_case21 hL C0 D V A hAq ad am cA cM σ τ hR n hn tail Z hl
        · refine lv_tableIn (x := 22) (off := 847) (tgt := 880) hx hb dL_law_33 (by decide) (by decide) rfl (by decide) ?_
          exact law_case22 hL C0 D V A hAq ad am cA cM σ τ hR n hn tail Z hl
        · refine lv_tableIn (x := 23) (off := 860) (tgt := 893) hx hb dL_law_33 (by decide) (by decide) rfl (by decide) ?_
          exact law_case23 hL C0 D V A hAq ad am cA cM σ τ hR n hn tail Z hl
        · refine lv_tableIn (x := 24) (off := 893) (tgt := 926) hx hb dL_law_33 (by decide) (by decide) rfl (by decide) ?_
          exact law_case24 hL C0 D V A hAq ad am cA cM σ τ hR n hn tail Z hl
        · refine lv_tableIn (x := 25) (off := 916) (tgt := 949) hx hb dL_law_33 (by decide) (by decide) rfl (by decide) ?_
          exact law_case25 hL C0 D V A hAq ad am cA cM σ τ hR n hn tail Z hl
        · refine lv_tableIn (x := 26) (off := 959) (tgt := 992) hx hb dL_law_33 (by decide) (by decide) rfl (by decide) ?_
          exact law_case26 hL C0 D V A hAq ad am cA cM σ τ hR n hn tail Z hl
        · refine lv_tableIn (x := 27) (off := 1002) (tgt := 1035) hx hb dL_law_33 (by decide) (by decide) rfl (by decide) ?_
          exact law_case27 hL C0 D V A hAq ad am cA cM σ τ hR n hn tail Z hl
        · refine lv_tableIn (x := 28) (off := 1025) (tgt := 1058) hx hb dL_law_33 (by decide) (by decide) rfl (by decide) ?_
          exact law_case28 hL C0 D V A hAq ad am cA cM σ τ hR n hn tail Z hl
        · refine lv_tableIn (x := 29) (off := 1048) (tgt := 1081) hx hb dL_law_33 (by decide) (by decide) rfl (by decide) ?_
          exact law_case29 hL C0 D V A hAq ad am cA cM σ τ hR n hn tail Z hl
        · refine lv_tableIn (x := 30) (off := 1111) (tgt := 1144) hx hb dL_law_33 (by decide) (by decide) rfl (by decide) ?_
          exact law_case30 hL C0 D V A hAq ad am cA cM σ τ hR n hn tail Z hl
        · refine lv_tableIn (x := 31) (off := 1154) (tgt := 1187) hx hb dL_law_33 (by decide) (by decide) rfl (by decide) ?_
          exact law_case31 hL C0 D V A hAq ad am cA cM σ τ hR n hn tail Z hl
        · refine lv_tableIn (x := 32) (off := 1187) (tgt := 1220) hx hb dL_law_33 (by decide) (by decide) rfl (by decide) ?_
          exact law_case32 hL C0 D V A hAq ad am cA cM σ τ hR n hn tail Z hl
        · refine lv_tableIn (x := 33) (off := 1220) (tgt := 1253) hx hb dL_law_33 (by decide) (by decide) rfl (by decide) ?_
          exact law_case33 hL C0 D V A hAq ad am cA cM σ τ hR n hn tail Z hl
        · refine lv_tableIn (x := 34) (off := 1253) (tgt := 1286) hx hb dL_law_33 (by decide) (by decide) rfl (by decide) ?_
          exact law_case34 hL C0 D V A hAq ad am cA cM σ τ hR n hn tail Z hl
        · refine lv_tableIn (x := 35) (off := 1276) (tgt := 1309) hx hb dL_law_33 (by decide) (by decide) rfl (by decide) ?_
          exact law_case35 hL C0 D V A hAq ad am cA cM σ τ hR n hn tail Z hl
        · refine lv_tableIn (x := 36) (off := 1299) (tgt := 1332) hx hb dL_law_33 (by decide) (by decide) rfl (by decide) ?_
          exact law_case36 hL C0 D V A hAq ad am cA cM σ τ hR n hn tail Z hl
        · refine lv_tableIn (x := 37) (off := 1312) (tgt := 1345) hx hb dL_law_33 (by decide) (by decide) rfl (by decide) ?_
          exact law_case37 hL C0 D V A hAq ad am cA cM σ τ hR n hn tail Z hl
        · refine lv_tableIn (x := 38) (off := 1325) (tgt := 1358) hx hb dL_law_33 (by decide) (by decide) rfl (by decide) ?_
          exact law_case38 hL C0 D V A hAq ad am cA cM σ τ hR n hn tail Z hl
      · refine lv_tableOut (tgt := 1381) hx hb dL_law_33 (Or.inr (by rw [nI_toInt (by omega)]; omega)) (by decide) ?_
        exact tail σ τ hR _ _ _ Z hl
