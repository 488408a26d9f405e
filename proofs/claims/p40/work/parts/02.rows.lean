/-! ROWS OF MINE: one bundle for what a state holds (zz_S), and a row an instruction over it -/
section
variable {p : Program} {l : Launch} {e : Env} {R : Room} {s : State} {m : MethodId} {args : Array Value} {below : List Frame} {meth : Method} {c : Code} {H : Heap} {locs : List Loc} {cells slots : Nat} {Q : State → Prop}
variable {cc : ByteArray} {pc : Nat} {ls : Array Slot} {rest st0 : List Value} {nL : Nat} {Ts : List Cond} {own : String} {D : va_G} {A : Nat → Prop} {WS : va_W} {TYS : List (ClassId × FieldType)} {a : Nat}
def zz_nest : List (String × Nat × MethodName × String) := [(RX6, 33, yX5_init, RX6), (RX6, 37, yX2_init, RX6), (RX6, 38, yX3_init, RX6), (RX0, 120, yX6_held, RX6), (RX0, 39, yX4_init, RX6), (RX0, 83, yX6_within, RX6), (RX1, 11, yX5_init, RX6), (RX1, 22, yX6_held, RX6), (RX1, 84, yX6_within, RX6), (RX2, 19, yX6_held, RX6), (RX2, 32, yX6_within, RX6), (RX3, 17, yX4_init, RX6), (RX3, 24, yX2_init, RX6), (RX4, 24, yX6_within, RX6)]
def zz_ao : List String := [RX0, RX2, RX3, RX4, RX5]
def zz_str : List (Nat × String × Nat) := [(65, "melt", 0), (71, "fee", 1), (73, "fine", 2), (126, "hgp", 3), (128, "ct", 4), (130, "gs", 5)]
abbrev zz_V : Type := (Nat → Nat) × (Nat → Nat) × Nat
def zz_len : List Nat := [4, 3, 4, 3, 2, 2]
def zz_byt : List (List Int32) := [[109, 101, 108, 116], [102, 101, 101], [102, 105, 110, 101], [104, 103, 112], [99, 116], [103, 115]]
def zz_abv (j : Nat) : Int32 := match j with
  | 0 => -1000000005
  | 1 => 0
  | 2 => 0
  | 3 => 1
  | 4 => 2
  | _ => 0
/-- what stands for itself: links of nest mates, the strings, the row ABOVE, two statics of the JDK: nobody writes them -/
def zz_N (V : zz_V) (A : Nat → Prop) (U : State) (H : Heap) : Prop := (∀ q ∈ zz_nest, va_Nw (.methodLinkNest q.1 q.2.1 q.2.2.1 q.2.2.2) U) ∧ (∀ C ∈ zz_ao, va_AO C U) ∧ (∀ q ∈ zz_str, vk_R RX1 q.1 q.2.1 (V.1 q.2.2) U) ∧ vk_S 6 zz_len zz_byt V.1 V.2.1 A U H ∧ va_Z RX6 "ABOVE" "[I" (.ref V.2.2) A U H ∧ va_T .int V.2.2 6 (fun j => .int (zz_abv j)) A U H ∧ va_Z "java/lang/String" "COMPACT_STRINGS" "Z" (.int 1) A U H ∧ va_Zq "jdk/internal/util/Preconditions" "SIOOBE_FORMATTER" "Ljava/util/function/BiFunction;" A U H ∧ va_Nw (.fieldLinkNest RX4 28 RX6 "ABOVE" "[I" RX6) U
theorem zz_N.go {V : zz_V} {B : Nat → Prop} {U : State} (h : zz_N V A s s.heap) (hS : va_S A s.heap H locs) (hB : ∀ q, B q → A q) (hW : s.WarmedH U.vm) : zz_N V B U H := by
  obtain ⟨h1, h2, h3, h4, h5, h6, h7, h8, h9⟩ := h
  exact ⟨fun q hq => va_Nw.warmM hW (h1 q hq), fun C hC => va_AO.moved hW.alike (h2 C hC), fun q hq => (h3 q hq).warm hW, ((h4.kept hS.2.1).narrow hB).moved hW.alike, ((h5.kept hS.2.1).narrow hB).moved hW.alike, ((h6.kept hS.2.1).narrow hB).moved hW.alike, ((h7.kept hS.2.1).narrow hB).moved hW.alike, ((h8.kept hS.2.1).narrow hB).moved hW.alike, va_Nw.warmF hW h9⟩
theorem zz_N.call {V : zz_V} {U : State} {g : JFrame} {mk : MethodId} {v : Array Value} (h : zz_N V A U H) : zz_N V A (U.calling g mk v) H := by
  obtain ⟨h1, h2, h3, h4, h5, h6, h7, h8, h9⟩ := h
  exact ⟨fun q hq => va_Nw.same rfl (u := U) rfl (h1 q hq), fun C hC => va_AO.moved (u := U) (Vm.Alike.refl U.vm) (h2 C hC), fun q hq => vk_R.same (u := U) rfl (h3 q hq), vk_S.moved (u := U) (Vm.Alike.refl U.vm) h4, va_Z.moved (u := U) (Vm.Alike.refl U.vm) h5, va_T.moved (u := U) (Vm.Alike.refl U.vm) h6, va_Z.moved (u := U) (Vm.Alike.refl U.vm) h7, va_Zq.moved (u := U) (Vm.Alike.refl U.vm) h8, va_Nw.same rfl (u := U) rfl h9⟩
theorem zz_nw {V : zz_V} {q : String × Nat × MethodName × String} (h : zz_N V A s H) (k : Nat) (hk : zz_nest[k]? = some q) : va_Nw (.methodLinkNest q.1 q.2.1 q.2.2.1 q.2.2.2) s := h.1 q (List.mem_of_getElem? hk)
/-- the world at a method's entry -/
def zz_C (D : va_G) (V : zz_V) (WS : va_W) (TYS : List (ClassId × FieldType)) (sz : Nat) (U : State) : Prop := U.heap.size = sz ∧ va_P D vwCl WS U.heap ∧ va_K D vwCl TYS U ∧ va_D (fun _ => True) WS ∧ zz_N V (va_A WS sz) U U.heap
/-- the world behind it -/
def zz_B (D : va_G) (A : Nat → Prop) (WS : va_W) (TYS : List (ClassId × FieldType)) (t : State) : Prop := va_P D vwCl WS t.heap ∧ va_K D vwCl TYS t ∧ va_D A WS
/-- the world in a method's body -/
def zz_S (D : va_G) (V : zz_V) (A : Nat → Prop) (s : State) (WS : va_W) (TYS : List (ClassId × FieldType)) (H : Heap) (locs : List Loc) : Prop := va_P D vwCl WS H ∧ va_D A WS ∧ va_K D vwCl TYS s ∧ va_S A s.heap H locs ∧ (∀ q : Nat, s.heap.size ≤ q → A q) ∧ zz_N V A s s.heap
variable {V : zz_V}
theorem zz_C.blind {av : List Value} {sz : Nat} : FrameBlind (va_Pc av (zz_C D V WS TYS sz)) := fun _ U _ _ q => ⟨q.1, q.2.1, q.2.2.1, va_K.moved (u := U) (Vm.Alike.refl U.vm) q.2.2.2.1, q.2.2.2.2.1, q.2.2.2.2.2.call⟩
theorem zz_enter {sz : Nat} (h : zz_C D V WS TYS sz s) : zz_S D V (va_A WS sz) s WS TYS s.heap [] := ⟨h.2.1, h.2.2.2.1.self, h.2.2.1, va_S.rf, fun q hq => Or.inr (h.1 ▸ hq), h.2.2.2.2⟩
theorem zz_m {α : Type} {L : List α} {w : α} (k : Nat) (h : L[k]? = some w) : w ∈ L := List.mem_of_getElem? h
theorem zz_v {x v : Int32} (h : x = v) (k : W p l e R s m args below meth c H locs cells slots Q (F0 m pc ls (.int v :: rest))) : W p l e R s m args below meth c H locs cells slots Q (F0 m pc ls (.int x :: rest)) := h ▸ k
theorem zz_vl {x v : Int64} (h : x = v) (k : W p l e R s m args below meth c H locs cells slots Q (F0 m pc ls (.long v :: rest))) : W p l e R s m args below meth c H locs cells slots Q (F0 m pc ls (.long x :: rest)) := h ▸ k
theorem zz_vr {x v : Value} (h : x = v) (k : W p l e R s m args below meth c H locs cells slots Q (F0 m pc ls (v :: rest))) : W p l e R s m args below meth c H locs cells slots Q (F0 m pc ls (x :: rest)) := h ▸ k
/-- fewer cells, or another order -/
theorem zz_S.sub {WS' : va_W} {TYS' : List (ClassId × FieldType)} (Z : zz_S D V A s WS TYS H locs) (is ts : List Nat) (hn : va_nd is = true) (hs : is.map (fun i => WS[i]?) = WS'.map some) (ht : ts.filterMap (fun i => TYS[i]?) = TYS') : zz_S D V A s WS' TYS' H locs := by
  refine ⟨?_, Z.2.1.sub is hn hs, Z.2.2.1.sub ts ht, Z.2.2.2⟩
  intro k q hk
  have h1 : (WS'.map some)[k]? = some (some q) := by rw [List.getElem?_map, hk]; rfl
  rw [← hs, List.getElem?_map] at h1
  cases hi : is[k]? with
  | none => rw [hi] at h1; cases h1
  | some i =>
    rw [hi] at h1
    exact Z.1 i q (Option.some.inj h1)
theorem zz_get {C : String} {T : u_T} {N ci index : Nat} {fs : List Value} {v : Value} (X : CallFix p m c cc nL s args Ts own) (Z : zz_S D V A s WS TYS H locs) (q0 : Nat) (he : WS[q0]? = some (a, .inr (ci, fs))) (hc : vwCl[ci]? = some (C, T, N)) (hin : ∀ w ∈ u_ws C T N, w ∈ Ts) (k : Nat) (hk : Nat.ble (k + 1) N = true) (hl : Cond.fieldLink own index (T k).1 (T k).2.1 (T k).2.2.1 ∈ Ts) (hv : fs[k]? = some v) (hdg : decode cc pc = .ok (.getfield index, 3))
    (kk : W p l e R s m args below meth c H locs cells slots Q (F0 m (pc + 3) ls (v :: rest))) : W p l e R s m args below meth c H locs cells slots Q (F0 m pc ls (.ref a :: rest)) :=
  va_get X.1 X.2.1 X.2.2.2.2 hin X.2.2.2.1 Z.2.2.1 Z.1 q0 he hc k (Nat.le_of_ble_eq_true hk) (X.2.2.2.2 _ hl) (fun _ h => h) hv hdg kk
theorem zz_put {C : String} {T : u_T} {N ci index : Nat} {fs : List Value} {v : Value} {WS' : va_W} (X : CallFix p m c cc nL s args Ts own) (Z : zz_S D V A s WS TYS H locs) (q0 : Nat) (he : WS[q0]? = some (a, .inr (ci, fs))) (hc : vwCl[ci]? = some (C, T, N)) (hin : ∀ w ∈ u_ws C T N, w ∈ Ts) (ty0 : Nat → FieldType) (hty : ∀ k, k < N → parseFieldDescriptor (T k).2.2.1 = some (ty0 k)) (hnm : ∀ a, a < N → ∀ b, b < N → a ≠ b → (T a).2.1 ≠ (T b).2.1) (k : Nat) (hk : Nat.ble (k + 1) N = true) (hl : Cond.fieldLink own index (T k).1 (T k).2.1 (T k).2.2.1 ∈ Ts) (hfin : (T k).2.2.2 = false) (hn : narrow (ty0 k) v = v) (hfit : fits (ty0 k) v = true) (hlen : Nat.ble (k + 1) fs.length = true) (hdg : decode cc pc = .ok (.putfield index, 3)) (hw : WS.set q0 (a, .inr (ci, fs.set k v)) = WS')
    (kk : ∀ (H : Heap) (locs : List Loc), zz_S D V A s WS' TYS H locs → W p l e R s m args below meth c H locs cells slots Q (F0 m (pc + 3) ls rest)) : W p l e R s m args below meth c H locs cells slots Q (F0 m pc ls (v :: .ref a :: rest)) := by
  subst hw
  exact va_put X.1 X.2.1 X.2.2.2.2 hin ty0 hty hnm X.2.2.2.1 Z.2.2.1 Z.1 Z.2.1 Z.2.2.2.1 q0 he hc k (Nat.le_of_ble_eq_true hk) (X.2.2.2.2 _ hl) (fun _ h => h) hfin (hty k (Nat.le_of_ble_eq_true hk)) hn hfit (Nat.le_of_ble_eq_true hlen) hdg (fun H1 l1 hP hD hS => kk H1 l1 ⟨hP, hD, Z.2.2.1, hS, Z.2.2.2.2⟩)
theorem zz_putF {C : String} {T : u_T} {N ci index : Nat} {fs : List Value} {v : Value} {WS' : va_W} (X : CallFix p m c cc nL s args Ts own) (Z : zz_S D V A s WS TYS H locs) (q0 : Nat) (he : WS[q0]? = some (a, .inr (ci, fs))) (hc : vwCl[ci]? = some (C, T, N)) (hin : ∀ w ∈ u_ws C T N, w ∈ Ts) (ty0 : Nat → FieldType) (hty : ∀ k, k < N → parseFieldDescriptor (T k).2.2.1 = some (ty0 k)) (hnm : ∀ a, a < N → ∀ b, b < N → a ≠ b → (T a).2.1 ≠ (T b).2.1) (k : Nat) (hk : Nat.ble (k + 1) N = true) (hl : Cond.fieldLink own index (T k).1 (T k).2.1 (T k).2.2.1 ∈ Ts) (hfin : (T k).2.2.2 = true) (hini : meth.name = "<init>") (hdecl : (T k).1 = own) (hn : narrow (ty0 k) v = v) (hfit : fits (ty0 k) v = true) (hlen : Nat.ble (k + 1) fs.length = true) (hdg : decode cc pc = .ok (.putfield index, 3)) (hw : WS.set q0 (a, .inr (ci, fs.set k v)) = WS')
    (kk : ∀ (H : Heap) (locs : List Loc), zz_S D V A s WS' TYS H locs → W p l e R s m args below meth c H locs cells slots Q (F0 m (pc + 3) ls rest)) : W p l e R s m args below meth c H locs cells slots Q (F0 m pc ls (v :: .ref a :: rest)) := by
  subst hw
  exact va_putF X.1 X.2.1 X.2.2.2.2 hin ty0 hty hnm X.2.2.2.1 Z.2.2.1 Z.1 Z.2.1 Z.2.2.2.1 q0 he hc k (Nat.le_of_ble_eq_true hk) (X.2.2.2.2 _ hl) (fun _ h => h) hfin hini hdecl (hty k (Nat.le_of_ble_eq_true hk)) hn hfit (Nat.le_of_ble_eq_true hlen) hdg (fun H1 l1 hP hD hS => kk H1 l1 ⟨hP, hD, Z.2.2.1, hS, Z.2.2.2.2⟩)
theorem zz_ild (X : CallFix p m c cc nL s args Ts own) (Z : zz_S D V A s WS TYS H locs) (q0 t0 : Nat) {cA : ClassId} {n : Nat} {f : Nat → Int32} (ha : WS[q0]? = some (a, .inl (cA, n, .inl f))) (ht : TYS[t0]? = some (cA, .int)) {i : Int32} (hin : vp_in i n) (hdg : decode cc pc = .ok (.iaload, 1))
    (kk : W p l e R s m args below meth c H locs cells slots Q (F0 m (pc + 1) ls (.int (f i.toNatClampNeg) :: rest))) : W p l e R s m args below meth c H locs cells slots Q (F0 m pc ls (.int i :: .ref a :: rest)) :=
  va_iald X.1 X.2.1 Z.2.2.1 Z.1 q0 t0 ha ht hin hdg kk
theorem zz_ist (X : CallFix p m c cc nL s args Ts own) (Z : zz_S D V A s WS TYS H locs) (q0 t0 : Nat) {cA : ClassId} {n : Nat} {f : Nat → Int32} (ha : WS[q0]? = some (a, .inl (cA, n, .inl f))) (ht : TYS[t0]? = some (cA, .int)) {i x : Int32} (hin : vp_in i n) (hdg : decode cc pc = .ok (.iastore, 1)) {WS' : va_W} (hw : WS.set q0 (a, .inl (cA, n, .inl (upd f i.toNatClampNeg x))) = WS')
    (kk : ∀ (H : Heap) (locs : List Loc), zz_S D V A s WS' TYS H locs → W p l e R s m args below meth c H locs cells slots Q (F0 m (pc + 1) ls rest)) : W p l e R s m args below meth c H locs cells slots Q (F0 m pc ls (.int x :: .int i :: .ref a :: rest)) := by
  subst hw
  exact va_iast X.1 X.2.1 Z.2.2.1 Z.1 Z.2.1 Z.2.2.2.1 q0 t0 ha ht hin hdg (fun H1 l1 hP hD hS => kk H1 l1 ⟨hP, hD, Z.2.2.1, hS, Z.2.2.2.2⟩)
theorem zz_ald (X : CallFix p m c cc nL s args Ts own) (Z : zz_S D V A s WS TYS H locs) (q0 t0 : Nat) {cA : ClassId} {C : String} {n : Nat} {f : Nat → Option Nat} (ha : WS[q0]? = some (a, .inl (cA, n, .inr (.inr (.inr (.inr f)))))) (ht : TYS[t0]? = some (cA, .object C)) {i : Int32} (hin : vp_in i n) {v : Value} (hv : va_rf (f i.toNatClampNeg) = v) (hdg : decode cc pc = .ok (.aaload, 1))
    (kk : W p l e R s m args below meth c H locs cells slots Q (F0 m (pc + 1) ls (v :: rest))) : W p l e R s m args below meth c H locs cells slots Q (F0 m pc ls (.int i :: .ref a :: rest)) :=
  va_aldq X.1 X.2.1 Z.2.2.1 Z.1 q0 t0 ha ht hin hdg (hv ▸ kk)
theorem zz_ast (X : CallFix p m c cc nL s args Ts own) (Z : zz_S D V A s WS TYS H locs) (q0 t0 qk ci : Nat) {cA : ClassId} {r : vw_C} {n v : Nat} {vs : List Value} {f : Nat → Option Nat} (ha : WS[q0]? = some (a, .inl (cA, n, .inr (.inr (.inr (.inr f)))))) (ht : TYS[t0]? = some (cA, .object r.1)) (hv : WS[qk]? = some (v, .inr (ci, vs))) (hc : vwCl[ci]? = some r) {i : Int32} (hin : vp_in i n) (hdg : decode cc pc = .ok (.aastore, 1)) {WS' : va_W} (hw : WS.set q0 (a, .inl (cA, n, .inr (.inr (.inr (.inr (va_up f i.toNatClampNeg (some v))))))) = WS')
    (kk : ∀ (H : Heap) (locs : List Loc), zz_S D V A s WS' TYS H locs → W p l e R s m args below meth c H locs cells slots Q (F0 m (pc + 1) ls rest)) : W p l e R s m args below meth c H locs cells slots Q (F0 m pc ls (.ref v :: .int i :: .ref a :: rest)) := by
  subst hw
  exact va_astq X.1 X.2.1 Z.2.2.1 Z.1 Z.2.1 Z.2.2.2.1 q0 t0 qk ci ha ht hv hc hin hdg (fun H1 l1 hP hD hS => kk H1 l1 ⟨hP, hD, Z.2.2.1, hS, Z.2.2.2.2⟩)
theorem zz_new {C : String} {T : u_T} {N ci index : Nat} {fs : List Value} {k n : Nat} (X : CallFix p m c cc nL s args Ts own) (Z : zz_S D V A s WS TYS H locs) (hc : vwCl[ci]? = some (C, T, N)) (hin : ∀ w ∈ u_ws C T N, w ∈ Ts) (ty0 : Nat → FieldType) (hty : ∀ k, k < N → parseFieldDescriptor (T k).2.2.1 = some (ty0 k)) (hcl : Cond.classLink own index C ∈ Ts) (hinst : Cond.instantiable C N ∈ Ts) (hini : Cond.initialized C ∈ Ts) (hfs : ∀ j, j < N → defaultValue (ty0 j) = vp_V fs j) (hcells : Nat.ble (cells + 1) R.cells = true) (hslots : Nat.ble (slots + N) R.slots = true) (h1 : cells + 1 = k) (h2 : slots + N = n) (hdg : decode cc pc = .ok (.new index, 3))
    (kk : ∀ (q : Nat) (H : Heap), zz_S D V A s (WS ++ [(q, .inr (ci, fs))]) TYS H locs → W p l e R s m args below meth c H locs k n Q (F0 m (pc + 3) ls (.ref q :: rest))) : W p l e R s m args below meth c H locs cells slots Q (F0 m pc ls rest) := by
  subst h1
  subst h2
  exact va_new X.1 X.2.1 X.2.2.2.2 hin ty0 hty X.2.2.2.1 (X.2.2.2.2 _ hcl) (X.2.2.2.2 _ hinst) (X.2.2.2.2 _ hini) Z.2.2.1 Z.1 Z.2.1 Z.2.2.2.1 Z.2.2.2.2.1 hc hfs (Nat.le_of_ble_eq_true hcells) (Nat.le_of_ble_eq_true hslots) hdg (fun q H1 hP hD hS => kk q H1 ⟨hP, hD, Z.2.2.1, hS, Z.2.2.2.2⟩)
theorem zz_newi {k n : Nat} (X : CallFix p m c cc nL s args Ts own) (Z : zz_S D V A s WS TYS H locs) (harr : Cond.arrayClass .int ∈ Ts) {i : Int32} {N' : Nat} (hn : ¬ i < 0) (hN : i.toNatClampNeg = N') (hbytes : Nat.ble (N' * 4) 536870912 = true) (hcells : Nat.ble (cells + 1) R.cells = true) (hslots : Nat.ble (slots + N') R.slots = true) (h1 : cells + 1 = k) (h2 : slots + N' = n) (hdg : decode cc pc = .ok (.newarray .int, 2))
    (kk : ∀ (q : Nat) (cA : ClassId) (H : Heap), zz_S D V A s (WS ++ [(q, .inl (cA, N', .inl (fun _ => 0)))]) (TYS ++ [(cA, .int)]) H locs → W p l e R s m args below meth c H locs k n Q (F0 m (pc + 2) ls (.ref q :: rest))) : W p l e R s m args below meth c H locs cells slots Q (F0 m pc ls (.int i :: rest)) := by
  subst h1
  subst h2
  exact va_newa (atype := .int) (ty := .int) (a0 := (N', .inl (fun _ => 0))) X.1 X.2.1 (X.2.2.2.2 _ harr) rfl Z.2.2.1 Z.1 Z.2.1 Z.2.2.2.1 Z.2.2.2.2.1 (fun cA => rfl) hn hN (Nat.le_of_ble_eq_true hbytes) (Nat.le_of_ble_eq_true hcells) (Nat.le_of_ble_eq_true hslots) hdg (fun q cA H1 hK hP hD hS => kk q cA H1 ⟨hP, hD, hK, hS, Z.2.2.2.2⟩)
theorem zz_newq {k n : Nat} {C : String} {index : Nat} (X : CallFix p m c cc nL s args Ts own) (Z : zz_S D V A s WS TYS H locs) (hcl : Cond.classLink own index C ∈ Ts) (hao : C ∈ zz_ao) {i : Int32} {N' : Nat} (hn : ¬ i < 0) (hN : i.toNatClampNeg = N') (hbytes : Nat.ble (N' * 4) 536870912 = true) (hcells : Nat.ble (cells + 1) R.cells = true) (hslots : Nat.ble (slots + N') R.slots = true) (h1 : cells + 1 = k) (h2 : slots + N' = n) (hdg : decode cc pc = .ok (.anewarray index, 3))
    (kk : ∀ (q : Nat) (cA : ClassId) (H : Heap), zz_S D V A s (WS ++ [(q, .inl (cA, N', .inr (.inr (.inr (.inr (fun _ => none))))))]) (TYS ++ [(cA, .object C)]) H locs → W p l e R s m args below meth c H locs k n Q (F0 m (pc + 3) ls (.ref q :: rest))) : W p l e R s m args below meth c H locs cells slots Q (F0 m pc ls (.int i :: rest)) := by
  subst h1
  subst h2
  exact va_newq X.1 X.2.1 X.2.2.2.1 (X.2.2.2.2 _ hcl) (Z.2.2.2.2.2.2.1 C hao) Z.2.2.1 Z.1 Z.2.1 Z.2.2.2.1 Z.2.2.2.2.1 hn hN (Nat.le_of_ble_eq_true hbytes) (Nat.le_of_ble_eq_true hcells) (Nat.le_of_ble_eq_true hslots) hdg (fun q cA H1 hK hP hD hS => kk q cA H1 ⟨hP, hD, hK, hS, Z.2.2.2.2⟩)
theorem zz_AB {WC : va_W} {TC : List (ClassId × FieldType)} (Z : zz_S D V A s WC TC H locs) : ∀ q, va_A WC H.size q → A q := fun q hq => by
  rcases hq with ⟨k, e, h⟩ | h
  · exact Z.2.1.2 k (q, e) h
  · exact Z.2.2.2.2.1 q (Nat.le_trans Z.2.2.2.1.1 h)
/-- what a call asks of its start -/
theorem zz_pS {WC : va_W} {TC : List (ClassId × FieldType)} {As : List Value} (Z : zz_S D V A s WC TC H locs) : PreS s H (va_Pc As (zz_C D V WC TC H.size)) As := ⟨zz_C.blind, fun U hU hW => ⟨rfl, by rw [hU], by rw [hU]; exact Z.1, va_K.moved hW.alike Z.2.2.1, Z.2.1.weaken (fun _ _ _ _ => trivial), by rw [hU]; exact Z.2.2.2.2.2.go Z.2.2.2.1 (zz_AB Z) hW⟩⟩
theorem zz_pV {WC : va_W} {TC : List (ClassId × FieldType)} {As : List Value} {b ci : Nat} {q : vw_C} {fs : List Value} (Z : zz_S D V A s WC TC H locs) (q0 : Nat) (he : WC[q0]? = some (b, .inr (ci, fs))) (hc : vwCl[ci]? = some q) : PreV s H q.1 b (va_Pc (.ref b :: As) (zz_C D V WC TC H.size)) As := ⟨zz_C.blind, va_recv Z.2.2.1 Z.1 hc he, fun U hU hW => ⟨rfl, by rw [hU], by rw [hU]; exact Z.1, va_K.moved hW.alike Z.2.2.1, Z.2.1.weaken (fun _ _ _ _ => trivial), by rw [hU]; exact Z.2.2.2.2.2.go Z.2.2.2.1 (zz_AB Z) hW⟩⟩
/-- behind a call that answers an int -/
theorem zz_ci {S : Type} {post : Int32 → S → Prop} {WF : S → va_W} {TF : S → List (ClassId × FieldType)} {WC WR : va_W} {TC TR : List (ClassId × FieldType)} {mc ms k n : Nat} {av : Array Value} (Z : zz_S D V A s WS TYS H locs) (isC isR tC tR : List Nat) (hC : isC.map (fun i => WS[i]?) = WC.map some) (hR : isR.map (fun i => WS[i]?) = WR.map some) (hnC : va_nd isC = true) (hnR : va_nd isR = true) (hdis : isR.all (fun i => !isC.contains i) = true) (htC : tC.filterMap (fun i => TYS[i]?) = TC) (htR : tR.filterMap (fun i => TYS[i]?) = TR)
    (hr : zz_S D V A s WC TC H locs → va_Run p l e R s m args below meth c H locs cells slots mc ms (F0 m pc ls st0) rest (va_Qi post (fun u t => zz_B D (va_A WC H.size) (WF u) (TF u) t) (va_A WC H.size) av) (va_A WC H.size)) (h1 : cells + mc = k) (h2 : slots + ms = n)
    (kk : ∀ (r : Int32) (u : S) (H : Heap) (locs : List Loc), post r u → zz_S D V A s (WR ++ WF u) (TR ++ TF u) H locs → W p l e R s m args below meth c H locs k n Q (F0 m (pc + 3) ls (.int r :: rest))) : W p l e R s m args below meth c H locs cells slots Q (F0 m pc ls st0) := by
  subst h1
  subst h2
  have hFc := va_free (wc := WC) Z.2.1 Z.2.2.2.1 Z.2.2.2.2.1 isC hC
  refine va_calli (hr (Z.sub isC tC hnC hC htC)) Z.2.2.2.1 (fun q _ h => hFc q h) hFc (fun r u t H1 locs1 ht hvm hw hB hz1 hk1 hS => ?_)
  obtain ⟨hP1, hK1, hD1⟩ := hB
  rw [ht] at hP1
  have hdis' : ∀ i ∈ isR, i ∉ isC := fun i hi hc => by
    have := List.all_eq_true.mp hdis i hi
    simp [hc] at this
  obtain ⟨hP, hD⟩ := va_join Z.1 Z.2.1 isC isR hC hR hnR hdis' hk1 hFc hP1 hD1
  exact kk r u H1 locs1 hw ⟨hP, hD, (Z.2.2.1.sub tR htR).app (va_K.moved hvm.symm hK1), hS, Z.2.2.2.2⟩
theorem zz_cv {S : Type} {post : S → Prop} {WF : S → va_W} {TF : S → List (ClassId × FieldType)} {WC WR : va_W} {TC TR : List (ClassId × FieldType)} {mc ms k n : Nat} {av : Array Value} (Z : zz_S D V A s WS TYS H locs) (isC isR tC tR : List Nat) (hC : isC.map (fun i => WS[i]?) = WC.map some) (hR : isR.map (fun i => WS[i]?) = WR.map some) (hnC : va_nd isC = true) (hnR : va_nd isR = true) (hdis : isR.all (fun i => !isC.contains i) = true) (htC : tC.filterMap (fun i => TYS[i]?) = TC) (htR : tR.filterMap (fun i => TYS[i]?) = TR)
    (hr : zz_S D V A s WC TC H locs → va_Run p l e R s m args below meth c H locs cells slots mc ms (F0 m pc ls st0) rest (va_Qv post (fun u t => zz_B D (va_A WC H.size) (WF u) (TF u) t) (va_A WC H.size) av) (va_A WC H.size)) (h1 : cells + mc = k) (h2 : slots + ms = n)
    (kk : ∀ (u : S) (H : Heap) (locs : List Loc), post u → zz_S D V A s (WR ++ WF u) (TR ++ TF u) H locs → W p l e R s m args below meth c H locs k n Q (F0 m (pc + 3) ls rest)) : W p l e R s m args below meth c H locs cells slots Q (F0 m pc ls st0) := by
  subst h1
  subst h2
  have hFc := va_free (wc := WC) Z.2.1 Z.2.2.2.1 Z.2.2.2.2.1 isC hC
  refine va_callv (hr (Z.sub isC tC hnC hC htC)) Z.2.2.2.1 (fun q _ h => hFc q h) hFc (fun u t H1 locs1 ht hvm hw hB hz1 hk1 hS => ?_)
  obtain ⟨hP1, hK1, hD1⟩ := hB
  rw [ht] at hP1
  have hdis' : ∀ i ∈ isR, i ∉ isC := fun i hi hc => by
    have := List.all_eq_true.mp hdis i hi
    simp [hc] at this
  obtain ⟨hP, hD⟩ := va_join Z.1 Z.2.1 isC isR hC hR hnR hdis' hk1 hFc hP1 hD1
  exact kk u H1 locs1 hw ⟨hP, hD, (Z.2.2.1.sub tR htR).app (va_K.moved hvm.symm hK1), hS, Z.2.2.2.2⟩
/-- the ends -/
theorem zz_iret {S : Type} {post : Int32 → S → Prop} {WF : S → va_W} {TF : S → List (ClassId × FieldType)} {v : Int32} (X : CallFix p m c cc nL s args Ts own) (hr : meth.sig.returnType = some .int) (hlk : meth.locks = false) (Z : zz_S D V A s WS TYS H locs) (u : S) (hp : post v u) (is ts : List Nat) (hn : va_nd is = true) (hs : is.map (fun i => WS[i]?) = (WF u).map some) (ht : ts.filterMap (fun i => TYS[i]?) = TF u) (hdg : decode cc pc = .ok (.ireturn, 1)) : W p l e R s m args below meth c H locs cells slots (MQ below (va_Qi post (fun u t => zz_B D A (WF u) (TF u) t) A) args s cells slots A) (F0 m pc ls [.int v]) := by
  have Z9 := Z.sub is ts hn hs ht
  exact W.iret (v := v) X.1 X.2.1 hr (fun t ht hW => ⟨⟨v, u, rfl, hp, by rw [ht]; exact Z9.1, va_K.moved hW.alike Z9.2.2.1, Z9.2.1⟩, Z.2.2.2.1.F ht⟩) Z.2.2.2.1.2.2 hdg hlk
theorem zz_zret {S : Type} {post : Int32 → S → Prop} {WF : S → va_W} {TF : S → List (ClassId × FieldType)} {v : Int32} (X : CallFix p m c cc nL s args Ts own) (hr : meth.sig.returnType = some .boolean) (hlk : meth.locks = false) (Z : zz_S D V A s WS TYS H locs) (hv : narrow .boolean (.int v) = .int v) (u : S) (hp : post v u) (is ts : List Nat) (hn : va_nd is = true) (hs : is.map (fun i => WS[i]?) = (WF u).map some) (ht : ts.filterMap (fun i => TYS[i]?) = TF u) (hdg : decode cc pc = .ok (.ireturn, 1)) : W p l e R s m args below meth c H locs cells slots (MQ below (va_Qi post (fun u t => zz_B D A (WF u) (TF u) t) A) args s cells slots A) (F0 m pc ls [.int v]) := by
  have Z9 := Z.sub is ts hn hs ht
  exact W.zret (v := v) X.1 X.2.1 hr hv (fun t ht hW => ⟨⟨v, u, rfl, hp, by rw [ht]; exact Z9.1, va_K.moved hW.alike Z9.2.2.1, Z9.2.1⟩, Z.2.2.2.1.F ht⟩) Z.2.2.2.1.2.2 hdg hlk
theorem zz_vret {S : Type} {post : S → Prop} {WF : S → va_W} {TF : S → List (ClassId × FieldType)} (X : CallFix p m c cc nL s args Ts own) (hr : meth.sig.returnType = none) (hlk : meth.locks = false) (Z : zz_S D V A s WS TYS H locs) (u : S) (hp : post u) (is ts : List Nat) (hn : va_nd is = true) (hs : is.map (fun i => WS[i]?) = (WF u).map some) (ht : ts.filterMap (fun i => TYS[i]?) = TF u) (hdg : decode cc pc = .ok (.return_, 1)) : W p l e R s m args below meth c H locs cells slots (MQ below (va_Qv post (fun u t => zz_B D A (WF u) (TF u) t) A) args s cells slots A) (F0 m pc ls []) := by
  have Z9 := Z.sub is ts hn hs ht
  exact W.vret X.1 X.2.1 hr (fun t ht hW => ⟨⟨u, rfl, hp, by rw [ht]; exact Z9.1, va_K.moved hW.alike Z9.2.2.1, Z9.2.1⟩, Z.2.2.2.1.F ht⟩) Z.2.2.2.1.2.2 hdg hlk
/-- a contract as this text writes it: any start that holds the cells WC; behind it an answer and a picture u with 'post', and the cells WF u -/
abbrev zz_MI (l : Launch) (y : MethodName) (ws : List Cond) (fr lo mc ms : Nat) (D : va_G) (V : zz_V) (av : List Value) (WC : va_W) (TC : List (ClassId × FieldType)) {S : Type} (post : Int32 → S → Prop) (WF : S → va_W) (TF : S → List (ClassId × FieldType)) : Prop := ∀ sz : Nat, Met l y ws ({ frames := fr, cells := mc, slots := ms, locals := lo }) (va_Pc av (zz_C D V WC TC sz)) (va_Qi post (fun u t => zz_B D (va_A WC sz) (WF u) (TF u) t) (va_A WC sz)) mc ms (va_A WC sz)
abbrev zz_MV (l : Launch) (y : MethodName) (ws : List Cond) (fr lo mc ms : Nat) (D : va_G) (V : zz_V) (av : List Value) (WC : va_W) (TC : List (ClassId × FieldType)) {S : Type} (post : S → Prop) (WF : S → va_W) (TF : S → List (ClassId × FieldType)) : Prop := ∀ sz : Nat, Met l y ws ({ frames := fr, cells := mc, slots := ms, locals := lo }) (va_Pc av (zz_C D V WC TC sz)) (va_Qv post (fun u t => zz_B D (va_A WC sz) (WF u) (TF u) t) (va_A WC sz)) mc ms (va_A WC sz)
theorem zz_istN (X : CallFix p m c cc nL s args Ts own) (Z : zz_S D V A s WS TYS H locs) (q0 t0 : Nat) {cA : ClassId} {n : Nat} {f : Nat → Int32} (ha : WS[q0]? = some (a, .inl (cA, n, .inl f))) (ht : TYS[t0]? = some (cA, .int)) {i x : Int32} (hin : vp_in i n) (hdg : decode cc pc = .ok (.iastore, 1)) {WS' : (Nat → Int32) → va_W} (hw : ∀ f', WS.set q0 (a, .inl (cA, n, .inl f')) = WS' f')
    (kk : ∀ (f' : Nat → Int32), f' = upd f i.toNatClampNeg x → ∀ (H : Heap) (locs : List Loc), zz_S D V A s (WS' f') TYS H locs → W p l e R s m args below meth c H locs cells slots Q (F0 m (pc + 1) ls rest)) : W p l e R s m args below meth c H locs cells slots Q (F0 m pc ls (.int x :: .int i :: .ref a :: rest)) :=
  zz_ist X Z q0 t0 ha ht hin hdg (hw _) (fun H1 l1 Z1 => kk _ rfl H1 l1 Z1)
theorem zz_astN (X : CallFix p m c cc nL s args Ts own) (Z : zz_S D V A s WS TYS H locs) (q0 t0 qk ci : Nat) {cA : ClassId} {r : vw_C} {n v : Nat} {vs : List Value} {f : Nat → Option Nat} (ha : WS[q0]? = some (a, .inl (cA, n, .inr (.inr (.inr (.inr f)))))) (ht : TYS[t0]? = some (cA, .object r.1)) (hv : WS[qk]? = some (v, .inr (ci, vs))) (hc : vwCl[ci]? = some r) {i : Int32} (hin : vp_in i n) (hdg : decode cc pc = .ok (.aastore, 1)) {WS' : (Nat → Option Nat) → va_W} (hw : ∀ f', WS.set q0 (a, .inl (cA, n, .inr (.inr (.inr (.inr f'))))) = WS' f')
    (kk : ∀ (f' : Nat → Option Nat), f' = va_up f i.toNatClampNeg (some v) → ∀ (H : Heap) (locs : List Loc), zz_S D V A s (WS' f') TYS H locs → W p l e R s m args below meth c H locs cells slots Q (F0 m (pc + 1) ls rest)) : W p l e R s m args below meth c H locs cells slots Q (F0 m pc ls (.ref v :: .int i :: .ref a :: rest)) :=
  zz_ast X Z q0 t0 qk ci ha ht hv hc hin hdg (hw _) (fun H1 l1 Z1 => kk _ rfl H1 l1 Z1)
theorem zz_in (i : Int32) (n : Nat) (h : (decide (i < 0) || Nat.ble n i.toNatClampNeg) = false) : vp_in i n := fun hc => by
  rcases hc with h1 | h1
  · simp [h1] at h
  · rw [Nat.ble_eq_true_of_le h1] at h
    simp at h
theorem zz_sw (n : Nat) (x : Int32) : (x.toInt < 0 ∨ (n : Int) < x.toInt) ∨ ∃ j : Nat, j ≤ n ∧ x = nI j := by
  by_cases h : x.toInt < 0 ∨ (n : Int) < x.toInt
  · exact Or.inl h
  · refine Or.inr ⟨x.toInt.toNat, by omega, ?_⟩
    have h0 : ¬ x < 0 := fun hx => by
      have := Int32.lt_iff_toInt_lt.mp hx
      have e0 : (0 : Int32).toInt = 0 := by decide
      omega
    obtain ⟨j, hj, rfl⟩ := nI_of h0
    rw [nI_toInt hj]
    rfl
end
