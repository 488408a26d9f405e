theorem zz_tb {w : Cond} (i : Nat) (h : tables_1[i]? = some w) : w ∈ lw_tbl := List.mem_append_right _ (List.mem_of_getElem? h)
def zz_tm (i : Nat) : Term := .string RX1 ([65, 71, 73, 126, 128, 130].getD i 0)
set_option maxHeartbeats 8000000 in
set_option maxRecDepth 100000 in
theorem zz_strs {s : State} {args : Array Value} {A : Nat → Prop} (hs : ∀ c ∈ flatC (Jvm.Cond.and given_1 narrow_1), c.before args s = true) (hA : ∀ a : Nat, a < s.heap.size → ¬ A a) : ∃ adK adV : Nat → Nat, vk_S 6 zz_len zz_byt adK adV A s s.heap ∧ ∀ i : Nat, i < 6 → (zz_tm i).eval args s none [] s = some (.ref (adK i)) := by
  refine vk_Sof (tm := zz_tm) (by decide) ?_ ?_ ?_ ?_ ?_ ?_ hA
  · intro i hi
    rcases (show i = 0 ∨ i = 1 ∨ i = 2 ∨ i = 3 ∨ i = 4 ∨ i = 5 by omega) with rfl | rfl | rfl | rfl | rfl | rfl <;> exact hs _ (by decide +kernel)
  · intro i hi
    rcases (show i = 0 ∨ i = 1 ∨ i = 2 ∨ i = 3 ∨ i = 4 ∨ i = 5 by omega) with rfl | rfl | rfl | rfl | rfl | rfl <;> exact hs _ (by decide +kernel)
  · intro i hi
    rcases (show i = 0 ∨ i = 1 ∨ i = 2 ∨ i = 3 ∨ i = 4 ∨ i = 5 by omega) with rfl | rfl | rfl | rfl | rfl | rfl <;> exact hs _ (by decide +kernel)
  · intro i hi
    rcases (show i = 0 ∨ i = 1 ∨ i = 2 ∨ i = 3 ∨ i = 4 ∨ i = 5 by omega) with rfl | rfl | rfl | rfl | rfl | rfl <;> exact hs _ (by decide +kernel)
  · intro i hi j hj
    rcases (show i = 0 ∨ i = 1 ∨ i = 2 ∨ i = 3 ∨ i = 4 ∨ i = 5 by omega) with rfl | rfl | rfl | rfl | rfl | rfl
    · have hj : j < 4 := hj
      rcases (show j = 0 ∨ j = 1 ∨ j = 2 ∨ j = 3 by omega) with rfl | rfl | rfl | rfl <;> exact hs _ (by decide +kernel)
    · have hj : j < 3 := hj
      rcases (show j = 0 ∨ j = 1 ∨ j = 2 by omega) with rfl | rfl | rfl <;> exact hs _ (by decide +kernel)
    · have hj : j < 4 := hj
      rcases (show j = 0 ∨ j = 1 ∨ j = 2 ∨ j = 3 by omega) with rfl | rfl | rfl | rfl <;> exact hs _ (by decide +kernel)
    · have hj : j < 3 := hj
      rcases (show j = 0 ∨ j = 1 ∨ j = 2 by omega) with rfl | rfl | rfl <;> exact hs _ (by decide +kernel)
    · have hj : j < 2 := hj
      rcases (show j = 0 ∨ j = 1 by omega) with rfl | rfl <;> exact hs _ (by decide +kernel)
    · have hj : j < 2 := hj
      rcases (show j = 0 ∨ j = 1 by omega) with rfl | rfl <;> exact hs _ (by decide +kernel)
  · intro i j hi hj hij
    rcases (show i = 0 ∨ i = 1 ∨ i = 2 ∨ i = 3 ∨ i = 4 ∨ i = 5 by omega) with rfl | rfl | rfl | rfl | rfl | rfl <;> rcases (show j = 0 ∨ j = 1 ∨ j = 2 ∨ j = 3 ∨ j = 4 ∨ j = 5 by omega) with rfl | rfl | rfl | rfl | rfl | rfl <;> first | exact absurd rfl hij | exact Or.inl (hs _ (by decide +kernel)) | exact Or.inr (hs _ (by decide +kernel))
set_option maxHeartbeats 8000000 in
set_option maxRecDepth 100000 in
theorem zz_begin {s : State} {args : Array Value} {A : Nat → Prop} (hts : ∀ w ∈ lw_tbl, w.before args s = true) (hgv : (Jvm.Cond.and given_1 narrow_1).before args s = true) (hA : ∀ a : Nat, a < s.heap.size → ¬ A a) : ∃ V : zz_V, zz_N V A s s.heap := by
  have hs := flat_of_before _ hgv
  obtain ⟨adK, adV, hS, hev⟩ := zz_strs hs hA
  obtain ⟨t, ht, hT⟩ := va_Tof (tm := .static RX6 "ABOVE" "[I") (ty := .int) (N := 6) (f := fun j => .int (zz_abv j)) (A := A) (by decide) (hs _ (by decide +kernel)) (va_eqt (hs _ (by decide +kernel))) (by
    intro j hj
    rcases (show j = 0 ∨ j = 1 ∨ j = 2 ∨ j = 3 ∨ j = 4 ∨ j = 5 by omega) with rfl | rfl | rfl | rfl | rfl | rfl <;> exact va_eqt (hs _ (by decide +kernel))) hA
  refine ⟨(adK, adV, t), List.forall_mem_cons.mpr ⟨va_Nw.of rfl (hts _ (zz_tb 34 (by decide +kernel))), List.forall_mem_cons.mpr ⟨va_Nw.of rfl (hts _ (zz_tb 150 (by decide +kernel))), List.forall_mem_cons.mpr ⟨va_Nw.of rfl (hts _ (zz_tb 169 (by decide +kernel))), List.forall_mem_cons.mpr ⟨va_Nw.of rfl (hts _ (zz_tb 334 (by decide +kernel))), List.forall_mem_cons.mpr ⟨va_Nw.of rfl (hts _ (zz_tb 68 (by decide +kernel))), List.forall_mem_cons.mpr ⟨va_Nw.of rfl (hts _ (zz_tb 319 (by decide +kernel))), List.forall_mem_cons.mpr ⟨va_Nw.of rfl (hts _ (zz_tb 200 (by decide +kernel))), List.forall_mem_cons.mpr ⟨va_Nw.of rfl (hts _ (zz_tb 579 (by decide +kernel))), List.forall_mem_cons.mpr ⟨va_Nw.of rfl (hts _ (zz_tb 741 (by decide +kernel))), List.forall_mem_cons.mpr ⟨va_Nw.of rfl (hts _ (zz_tb 782 (by decide +kernel))), List.forall_mem_cons.mpr ⟨va_Nw.of rfl (hts _ (zz_tb 548 (by decide +kernel))), List.forall_mem_cons.mpr ⟨va_Nw.of rfl (hts _ (zz_tb 174 (by decide +kernel))), List.forall_mem_cons.mpr ⟨va_Nw.of rfl (hts _ (zz_tb 176 (by decide +kernel))), List.forall_mem_cons.mpr ⟨va_Nw.of rfl (hts _ (zz_tb 361 (by decide +kernel))), fun _ h => absurd h List.not_mem_nil⟩⟩⟩⟩⟩⟩⟩⟩⟩⟩⟩⟩⟩⟩, List.forall_mem_cons.mpr ⟨va_AO.of (hts _ (zz_tb 26 (by decide +kernel))), List.forall_mem_cons.mpr ⟨va_AO.of (hts _ (zz_tb 28 (by decide +kernel))), List.forall_mem_cons.mpr ⟨va_AO.of (hts _ (zz_tb 30 (by decide +kernel))), List.forall_mem_cons.mpr ⟨va_AO.of (hts _ (zz_tb 65 (by decide +kernel))), List.forall_mem_cons.mpr ⟨va_AO.of (hts _ (zz_tb 32 (by decide +kernel))), fun _ h => absurd h List.not_mem_nil⟩⟩⟩⟩⟩, List.forall_mem_cons.mpr ⟨vk_R.of (hts _ (zz_tb 592 (by decide +kernel))) (hev 0 (by decide)), List.forall_mem_cons.mpr ⟨vk_R.of (hts _ (zz_tb 645 (by decide +kernel))) (hev 1 (by decide)), List.forall_mem_cons.mpr ⟨vk_R.of (hts _ (zz_tb 646 (by decide +kernel))) (hev 2 (by decide)), List.forall_mem_cons.mpr ⟨vk_R.of (hts _ (zz_tb 679 (by decide +kernel))) (hev 3 (by decide)), List.forall_mem_cons.mpr ⟨vk_R.of (hts _ (zz_tb 680 (by decide +kernel))) (hev 4 (by decide)), List.forall_mem_cons.mpr ⟨vk_R.of (hts _ (zz_tb 681 (by decide +kernel))) (hev 5 (by decide)), fun _ h => absurd h List.not_mem_nil⟩⟩⟩⟩⟩⟩, hS, va_Zref (hts _ (zz_tb 363 (by decide +kernel))) (hts _ (zz_tb 1 (by decide +kernel))) ht hA, hT, va_Zof (hts _ (zz_tb 606 (by decide +kernel))) (hts _ (zz_tb 10 (by decide +kernel))) (va_eqt (hs _ (by decide +kernel))) hA, va_Zqof (hts _ (zz_tb 622 (by decide +kernel))) (hts _ (zz_tb 12 (by decide +kernel))) (hs _ (by decide +kernel)) hA, va_Nw.of rfl (hts _ (zz_tb 362 (by decide +kernel)))⟩
set_option maxHeartbeats 8000000 in
set_option maxRecDepth 100000 in
theorem whole_start {p : Program} {e : Env} {s : State} {m : MethodId} {below : List Frame} {meth : Method} {c : Code} (l : Launch) (hflags : l.flags = flags0) {b L : Nat} {xs : Nat → Int32} (hL : L ≤ 3072) (C0 : lw_At p s m meth c b L xs) : W p l e room_1 s m #[Value.ref b] below meth c s.heap [] 0 0 (lw_Z below #[Value.ref b] s) (entryFrame m ([Value.ref b] : List Value).toArray 4) := by
  obtain ⟨hx, hb, hr, hml, hown, hts0, hX, hbl, hlocks, hgv⟩ := id C0
  have hts := fun w h => hts0 w (wsL_law_in w h)
  have X : CallFix p m c cL_law 4 s #[Value.ref b] wsL_law RL := ⟨hx, hb, hml, hown, hts⟩
  obtain ⟨c0, iS0, hKn0⟩ := u_known (C := RX0) (T := TX0) (N := 14) (n := 14) hts inlX0 (hts _ (zz_m 23 rfl))
  obtain ⟨c1, iS1, hKn1⟩ := u_known (C := RX1) (T := TX1) (N := 8) (n := 8) hts inlX1 (hts _ (zz_m 33 rfl))
  obtain ⟨c2, iS2, hKn2⟩ := u_known (C := RX2) (T := TX2) (N := 3) (n := 3) hts inlX2 (hts _ (zz_m 25 rfl))
  obtain ⟨c3, iS3, hKn3⟩ := u_known (C := RX3) (T := TX3) (N := 4) (n := 4) hts inlX3 (hts _ (zz_m 27 rfl))
  obtain ⟨c4, iS4, hKn4⟩ := u_known (C := RX4) (T := TX4) (N := 4) (n := 4) hts inlX4 (hts _ (zz_m 56 rfl))
  obtain ⟨c5, iS5, hKn5⟩ := u_known (C := RX5) (T := TX5) (N := 5) (n := 5) hts inlX5 (hts _ (zz_m 21 rfl))
  obtain ⟨c6, iS6, hKn6⟩ := u_known (C := RX6) (T := TX6) (N := 15) (n := 15) hts inlX6 (hts _ (zz_m 1 rfl))
  obtain ⟨c7, iS7, hKn7⟩ := u_known (C := RX7) (T := TX7) (N := 31) (n := 31) hts inlX7 (hts _ (zz_m 4 rfl))
  obtain ⟨D, hD⟩ : ∃ D : va_G, ∀ (k : Nat) (q : vw_C), vwCl[k]? = some q → u_Kn s q.1 q.2.1 q.2.2 (D.1 k) (D.2 k) := by
    refine ⟨(fun k => if k = 0 then c0 else if k = 1 then c1 else if k = 2 then c2 else if k = 3 then c3 else if k = 4 then c4 else if k = 5 then c5 else if k = 6 then c6 else c7, fun k => if k = 0 then iS0 else if k = 1 then iS1 else if k = 2 then iS2 else if k = 3 then iS3 else if k = 4 then iS4 else if k = 5 then iS5 else if k = 6 then iS6 else iS7), ?_⟩
    intro k q hq
    match k, hq with
    | 0, hq => cases hq; exact hKn0
    | 1, hq => cases hq; exact hKn1
    | 2, hq => cases hq; exact hKn2
    | 3, hq => cases hq; exact hKn3
    | 4, hq => cases hq; exact hKn4
    | 5, hq => cases hq; exact hKn5
    | 6, hq => cases hq; exact hKn6
    | 7, hq => cases hq; exact hKn7
    | k + 8, hq => simp [vwCl] at hq
  obtain ⟨A, hAq, hAp⟩ : ∃ A : Nat → Prop, (∀ q, A q → s.heap.size ≤ q) ∧ (∀ q, s.heap.size ≤ q → A q) := ⟨fun q => s.heap.size ≤ q, fun _ h => h, fun _ h => h⟩
  have hbA : ¬ A b := fun h => absurd (hAq b h) (Nat.not_le.mpr hbl)
  obtain ⟨V, hN⟩ := zz_begin (A := A) hts0 hgv (fun a ha h => absurd (hAq a h) (Nat.not_le.mpr ha))
  have Z : zz_S D V A s [] [] s.heap [] := ⟨fun k q h => by simp at h, ⟨fun i j p q h => by simp at h, fun k q h => by simp at h⟩, ⟨hD, fun k q h => by simp at h⟩, va_S.rf, hAp, hN⟩
  have hl := lv_entry ([.ref b]) (n := 4) (Nat.le_of_ble_eq_true rfl)
  rw [lg_entry_eq]
  generalize (lg_sl ([.ref b]) ++ List.replicate (4 - (lg_sl ([.ref b])).length) Slot.unset).toArray = ls at hl ⊢
  have hl : lv_has ls 4 [(0, .ref b)] := hl
  refine zz_new (ci := 6) (fs := [.null, .null, .null, .null, .null, .null, .null, .null, .null, .null, .int 0, .int 0, .int 0, .int 0, .int 0]) (k := 1) (n := 15) X Z rfl inlX6 tyX6 tyX6_ok (zz_m 0 rfl) (zz_m 1 rfl) (zz_m 2 rfl) zf_X6 rfl rfl rfl rfl dL_law_0 (fun q1 Hq1 Z1 => ?_)
  replace Z1 : zz_S D V A s [(q1, .inr (6, [.null, .null, .null, .null, .null, .null, .null, .null, .null, .null, .int 0, .int 0, .int 0, .int 0, .int 0]))] [] Hq1 _ := Z1
  refine lv_dup hx hb dL_law_3 rfl ?_
  refine zz_cv (WC := [(q1, .inr (6, [.null, .null, .null, .null, .null, .null, .null, .null, .null, .null, .int 0, .int 0, .int 0, .int 0, .int 0]))]) (TC := []) (WR := []) (TR := []) (k := 189) (n := 4004) Z1 [0] [] [] [] rfl rfl (by decide +kernel) (by decide +kernel) (by decide +kernel) rfl rfl (fun Zc => va_runI (As := []) (rest := [.ref q1]) X (c_One_init l D V q1 Hq1.size) (cwI 0 hts gL_law_X6_init rfl rfl rfl (hts _ (zz_m 2 rfl)) (hts _ (zz_m 6 rfl)) (hts _ (zz_m 7 rfl)) rfl zh_X6_init ⟨Nat.le_of_ble_eq_true rfl, Nat.le_of_ble_eq_true rfl⟩) (zz_pS Zc) rfl rfl hl.1 rfl (lv_room (Nat.le_of_ble_eq_true rfl)) dL_law_4 ⟨Nat.le_of_ble_eq_true rfl, Nat.le_of_ble_eq_true rfl⟩) rfl rfl (fun u H2 locs2 hw Z2 => ?_)
  obtain ⟨ad, kd, fd, gd⟩ := u
  try dsimp only at hw Z2
  obtain ⟨hfa, hx0⟩ := hw
  subst hx0
  have Z3 := one_world ad kd fd gd hfa Z2
  clear Z Z1 Z2
  refine lv_astore_n (lv' := [(1, .ref (ad 0)), (0, .ref b)]) hx hb dL_law_7 rfl hl (by decide) rfl (fun ls1 hl1 => ?_)
  refine zz_new (ci := 7) (fs := [.null, .null, .null, .int 0, .null, .null, .null, .null, .null, .null, .null, .null, .null, .null, .int 0, .int 0, .int 0, .int 0, .int 0, .int 0, .int 0, .int 0, .int 0, .int 0, .int 0, .null, .null, .null, .null, .int 0, .null]) (k := 190) (n := 4035) X Z3 rfl inlX7 tyX7 tyX7_ok (zz_m 3 rfl) (zz_m 4 rfl) (zz_m 5 rfl) zf_X7 rfl rfl rfl rfl dL_law_8 (fun q2 Hq2 Z4 => ?_)
  refine lv_dup hx hb dL_law_11 rfl ?_
  refine zy_cs (WR := (zg_W XL ad (xcA kd) (x0 fd))) (TR := (zg_T XL (xcA kd))) (WC := [(q2, .inr (7, [.null, .null, .null, .int 0, .null, .null, .null, .null, .null, .null, .null, .null, .null, .null, .int 0, .int 0, .int 0, .int 0, .int 0, .int 0, .int 0, .int 0, .int 0, .int 0, .int 0, .null, .null, .null, .null, .int 0, .null]))]) (k := 208) (n := 13935) Z4 (fun Zc => va_runI (As := []) (rest := [.ref q2]) X (c_Model_init l D V q2 Hq2.size) (cwI 0 hts gL_law_X7_init rfl rfl rfl (hts _ (zz_m 5 rfl)) (hts _ (zz_m 81 rfl)) (hts _ (zz_m 82 rfl)) rfl zh_X7_init ⟨Nat.le_of_ble_eq_true rfl, Nat.le_of_ble_eq_true rfl⟩) (zz_pS Zc) rfl rfl hl1.1 rfl (lv_room (Nat.le_of_ble_eq_true rfl)) dL_law_12 ⟨Nat.le_of_ble_eq_true rfl, Nat.le_of_ble_eq_true rfl⟩) rfl rfl (fun u H5 locs5 hw Z5 => ?_)
  obtain ⟨am, km, fm⟩ := u
  try dsimp only at hw Z5
  obtain ⟨hfm, hx1⟩ := hw
  subst hx1
  clear Z3 Z4
  have Z6 : zz_S D V A s ((zg_W XL ad (xcA kd) (x0 fd)) ++ zg_W ML am (mcA km) (m0 fm)) ((zg_T XL (xcA kd)) ++ zg_T ML (mcA km)) H5 locs5 := zs_app Z5 rfl [0, 0, 1, 2, 3, 4, 5, 6, 7, 8, 9, 10, 11, 12, 13, 14, 15, 16, 17] rfl
  clear Z5
  refine lv_astore_n (lv' := [(2, .ref (am 0)), (1, .ref (ad 0)), (0, .ref b)]) hx hb dL_law_15 rfl hl1 (by decide) rfl (fun ls2 hl2 => ?_)
  refine lv_iconst (v := 0) hx hb dL_law_16 (by decide) ?_
  refine lv_istore_n (lv' := [(3, .int 0), (2, .ref (am 0)), (1, .ref (ad 0)), (0, .ref b)]) hx hb dL_law_17 rfl hl2 (by decide) rfl (fun ls3 hl3 => ?_)
  exact law_loop hL C0 D V A hAq ad am (xcA kd) (mcA km) L 0 (by omega) (by omega) _ _ (lw_R0 (ini_a1 hfa) hfm) _ _ _ Z6 hl3
