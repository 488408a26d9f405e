/-! THE WORLD AS A PICTURE OF NUMBERS: a place of the list, a number of it -/
abbrev zg_S : Type := Nat → Nat → Int32
def zg_row (σ : zg_S) (p : Nat) (f : Nat → Int32) : zg_S := fun q => if q = p then f else σ q
def zg_up (σ : zg_S) (p k : Nat) (v : Int32) : zg_S := zg_row σ p (upd (σ p) k v)
def zg_fl (ci : Nat) (ad : Nat → Nat) (p : Nat) (w : Nat → Int32) : List Value := match ci with
  | 0 => [.ref (ad 1), .ref (ad (p + 1)), .ref (ad (p + 2)), .int (w 3), .int (w 4), .int (w 5), .int (w 6), .int (w 7), .int (w 8), .int (w 9), .int (w 10), .int (w 11), .int (w 12), .int (w 13)]
  | 1 => [.ref (ad 6), .ref (ad 8), .int (w 2), .int (w 3), .int (w 4), .int (w 5), .int (w 6), .int (w 7)]
  | 2 => [.int (w 0), .int (w 1), .ref (ad (p + 1))]
  | 3 => [.int (w 0), .int (w 1), .ref (ad (p + 1)), .ref (ad (p + 2))]
  | 4 => [.int (w 0), .int (w 1), .int (w 2), .int (w 3)]
  | 5 => [.int (w 0), .int (w 1), .int (w 2), .ref (ad (p + 1)), .ref (ad (p + 2))]
  | 6 => [.ref (ad 1), .ref (ad 153), .ref (ad 165), .ref (ad 177), .ref (ad 2), .ref (ad 6), .ref (ad 7), .ref (ad 3), .ref (ad 4), .ref (ad 5), .int (w 10), .int (w 11), .int (w 12), .int (w 13), .int (w 14)]
  | _ => [.ref (ad 1), .ref (ad 2), .ref (ad 3), .int (w 3), .ref (ad 4), .ref (ad 5), .ref (ad 6), .ref (ad 7), .ref (ad 8), .ref (ad 9), .ref (ad 10), .ref (ad 11), .ref (ad 12), .ref (ad 13), .int (w 14), .int (w 15), .int (w 16), .int (w 17), .int (w 18), .int (w 19), .int (w 20), .int (w 21), .int (w 22), .int (w 23), .int (w 24), .ref (ad 14), .ref (ad 15), .ref (ad 16), .ref (ad 17), .int (w 29), .ref (ad 18)]
def zg_ra (kd p j : Nat) : Nat := match kd with
  | 9 => 11 + 3 * j
  | 10 => 81 + 12 * j
  | 11 => p + 2 + j
  | 12 => 53 + 2 * j
  | _ => 61 + 4 * j
def zg_ty (kd : Nat) : FieldType := match kd with
  | 9 => .object RX5
  | 10 => .object RX0
  | 11 => .object RX4
  | 12 => .object RX2
  | 13 => .object RX3
  | _ => .int
/-- how many places, which kind each is (a class, 8 a row of ints, 9 .. 13 a row of references), how long a row -/
abbrev zg_L : Type := Nat × (Nat → Nat) × (Nat → Nat)
def xkd (p : Nat) : Nat := if p < 11 then [6, 9, 10, 12, 13, 8, 8, 1, 5, 8, 8].getD p 99 else if p < 53 then (if (p - 11) % 3 = 0 then 5 else 8) else if p < 61 then (if (p - 53) % 2 = 0 then 2 else 8) else if p < 81 then [3, 4, 2, 8].getD ((p - 61) % 4) 99 else if p < 189 then (if (p - 81) % 12 = 0 then 0 else if (p - 81) % 12 = 1 then 11 else if (p - 81) % 12 = 2 then 8 else 4) else 99
def xln (p : Nat) : Nat := if p < 11 then [0, 14, 6, 4, 5, 60, 96, 0, 0, 96, 96].getD p 0 else if p < 53 then 96 else if p < 81 then 24 else if (p - 81) % 12 = 1 then 9 else 3
def mkd (p : Nat) : Nat := if p = 0 then 7 else if p < 19 then 8 else 99
def mln (p : Nat) : Nat := [0, 3047, 3047, 3047, 4, 4, 96, 5, 5, 5, 5, 120, 47, 96, 128, 100, 24, 60, 60].getD p 0
abbrev XL : zg_L := (189, xkd, xln)
abbrev ML : zg_L := (19, mkd, mln)
def zg_c (L : zg_L) (ad : Nat → Nat) (cA : Nat → ClassId) (σ : zg_S) (p : Nat) : Nat × va_E := (ad p, if L.2.1 p < 8 then .inr (L.2.1 p, zg_fl (L.2.1 p) ad p (σ p)) else if L.2.1 p = 8 then .inl (cA p, L.2.2 p, .inl (σ p)) else .inl (cA p, L.2.2 p, .inr (.inr (.inr (.inr (fun j => some (ad (zg_ra (L.2.1 p) p j))))))))
def zg_W (L : zg_L) (ad : Nat → Nat) (cA : Nat → ClassId) (σ : zg_S) : va_W := (List.range L.1).map (zg_c L ad cA σ)
def zg_T (L : zg_L) (cA : Nat → ClassId) : List (ClassId × FieldType) := (List.range L.1).map (fun p => (cA p, zg_ty (L.2.1 p)))
def zg_ok (L : zg_L) : Prop := ∀ p, L.2.1 p < 99 → p < L.1
theorem zg_row_ne {σ : zg_S} {p q : Nat} {f : Nat → Int32} (h : q ≠ p) : zg_row σ p f q = σ q := if_neg h
theorem zg_row_eq {σ : zg_S} {p : Nat} {f : Nat → Int32} : zg_row σ p f p = f := if_pos rfl
theorem xL_ok : zg_ok XL := fun p h => Nat.lt_of_not_le (fun hp => by
  have hp : 189 ≤ p := hp
  have e : xkd p = 99 := by
    unfold xkd
    rw [if_neg (by omega), if_neg (by omega), if_neg (by omega), if_neg (by omega), if_neg (Nat.not_lt.mpr hp)]
  rw [show XL.2.1 p = xkd p from rfl, e] at h
  omega)
theorem mL_ok : zg_ok ML := fun p h => Nat.lt_of_not_le (fun hp => by
  have hp' : 19 ≤ p := hp
  have e : mkd p = 99 := by
    unfold mkd
    rw [if_neg (by omega), if_neg (by omega)]
  rw [show ML.2.1 p = mkd p from rfl, e] at h
  omega)
theorem zg_at {L : zg_L} {ad : Nat → Nat} {cA : Nat → ClassId} {σ : zg_S} {p : Nat} (h : p < L.1) : (zg_W L ad cA σ)[p]? = some (zg_c L ad cA σ p) := by
  unfold zg_W
  rw [List.getElem?_map, List.getElem?_range h]
  rfl
theorem zg_Tat {L : zg_L} {cA : Nat → ClassId} {p : Nat} (h : p < L.1) : (zg_T L cA)[p]? = some (cA p, zg_ty (L.2.1 p)) := by
  unfold zg_T
  rw [List.getElem?_map, List.getElem?_range h]
  rfl
theorem zg_obj {L : zg_L} {ad : Nat → Nat} {cA : Nat → ClassId} {σ : zg_S} {p ci : Nat} (hL : zg_ok L) (hk : L.2.1 p = ci) (hc : Nat.ble (ci + 1) 8 = true) : (zg_W L ad cA σ)[p]? = some (ad p, .inr (ci, zg_fl ci ad p (σ p))) := by
  have hc' : ci < 8 := Nat.le_of_ble_eq_true hc
  subst hk
  rw [zg_at (hL p (by omega))]
  unfold zg_c
  rw [if_pos hc']
theorem zg_int {L : zg_L} {ad : Nat → Nat} {cA : Nat → ClassId} {σ : zg_S} {p N : Nat} (hL : zg_ok L) (hk : L.2.1 p = 8) (hn : L.2.2 p = N) : (zg_W L ad cA σ)[p]? = some (ad p, .inl (cA p, N, .inl (σ p))) := by
  subst hn
  rw [zg_at (hL p (by omega))]
  unfold zg_c
  rw [if_neg (by omega), if_pos hk]
theorem zg_ref {L : zg_L} {ad : Nat → Nat} {cA : Nat → ClassId} {σ : zg_S} {p kd N : Nat} (hL : zg_ok L) (hk : L.2.1 p = kd) (h9 : Nat.ble 9 kd = true) (h14 : Nat.ble (kd + 1) 14 = true) (hn : L.2.2 p = N) : (zg_W L ad cA σ)[p]? = some (ad p, .inl (cA p, N, .inr (.inr (.inr (.inr (fun j => some (ad (zg_ra kd p j)))))))) := by
  have h1 := Nat.le_of_ble_eq_true h9
  have h2 := Nat.le_of_ble_eq_true h14
  subst hn
  subst hk
  rw [zg_at (hL p (by omega))]
  unfold zg_c
  rw [if_neg (by omega), if_neg (by omega)]
theorem zg_seta {L : zg_L} {ad : Nat → Nat} {cA : Nat → ClassId} {σ : zg_S} {p N : Nat} {f : Nat → Int32} (hL : zg_ok L) (hk : L.2.1 p = 8) (hn : L.2.2 p = N) : (zg_W L ad cA σ).set p (ad p, .inl (cA p, N, .inl f)) = zg_W L ad cA (zg_row σ p f) := by
  subst hn
  apply List.ext_getElem?
  intro i
  rw [List.getElem?_set]
  have hp : p < L.1 := hL p (by omega)
  by_cases hi : i < L.1
  · by_cases e : p = i
    · subst e
      rw [if_pos rfl, if_pos (by unfold zg_W; simpa using hp), zg_at hp]
      unfold zg_c
      rw [if_neg (by omega), if_pos hk, zg_row_eq]
    · rw [if_neg e, zg_at hi, zg_at hi]
      unfold zg_c
      rw [zg_row_ne (fun h => e h.symm)]
  · have e : p ≠ i := by omega
    rw [if_neg e, List.getElem?_eq_none (by unfold zg_W; simp; omega), List.getElem?_eq_none (by unfold zg_W; simp; omega)]
theorem zg_setf {L : zg_L} {ad : Nat → Nat} {cA : Nat → ClassId} {σ : zg_S} {p ci k : Nat} {v : Int32} (hL : zg_ok L) (hk : L.2.1 p = ci) (hc : Nat.ble (ci + 1) 8 = true) (hs : ∀ w : Nat → Int32, (zg_fl ci ad p w).set k (.int v) = zg_fl ci ad p (upd w k v)) : (zg_W L ad cA σ).set p (ad p, .inr (ci, (zg_fl ci ad p (σ p)).set k (.int v))) = zg_W L ad cA (zg_up σ p k v) := by
  have hc' : ci < 8 := Nat.le_of_ble_eq_true hc
  subst hk
  rw [hs]
  apply List.ext_getElem?
  intro i
  rw [List.getElem?_set]
  have hp : p < L.1 := hL p (by omega)
  by_cases hi : i < L.1
  · by_cases e : p = i
    · subst e
      rw [if_pos rfl, if_pos (by unfold zg_W; simpa using hp), zg_at hp]
      unfold zg_c zg_up
      rw [if_pos hc', zg_row_eq]
    · rw [if_neg e, zg_at hi, zg_at hi]
      unfold zg_c zg_up
      rw [zg_row_ne (fun h => e h.symm)]
  · have e : p ≠ i := by omega
    rw [if_neg e, List.getElem?_eq_none (by unfold zg_W; simp; omega), List.getElem?_eq_none (by unfold zg_W; simp; omega)]
/-! what the program's text is made of -/
def zlet {α β : Type} (a : α) (k : α → β) : β := k a
def zbd {β : Type} (o : Option (Int32 × zg_S)) (k : Int32 → zg_S → Option β) : Option β := match o with
  | none => none
  | some q => k q.1 q.2
def zin (i : Int32) (n : Nat) : Bool := decide (0 ≤ i) && decide (i.toNatClampNeg < n)
def zfix {α : Type} (bot : α) (F : α → α) : Nat → α
  | 0 => bot
  | k + 1 => F (zfix bot F k)
def zfu : Nat := 100000
theorem zLet {α β : Type} {a : α} {k : α → Option β} {q : β} (h : zlet a k = some q) : ∃ x, x = a ∧ k x = some q := ⟨a, rfl, h⟩
theorem zBd {β : Type} {o : Option (Int32 × zg_S)} {k : Int32 → zg_S → Option β} {q : β} (h : zbd o k = some q) : ∃ r σ, o = some (r, σ) ∧ k r σ = some q := by
  cases o with
  | none => cases h
  | some w => exact ⟨w.1, w.2, rfl, h⟩
theorem zIn {i : Int32} {n : Nat} (h : zin i n = true) : vp_in i n ∧ i.toNatClampNeg < n := by
  unfold zin at h
  rw [Bool.and_eq_true, decide_eq_true_eq, decide_eq_true_eq] at h
  refine ⟨fun hc => ?_, h.2⟩
  rcases hc with h1 | h1
  · exact absurd h1 (Int32.not_lt.mpr h.1)
  · exact absurd h.2 (Nat.not_lt.mpr h1)
theorem zG {β : Type} {i : Int32} {n : Nat} {t : Option β} {q : β} (h : (if zin i n = true then t else none) = some q) : (vp_in i n ∧ i.toNatClampNeg < n) ∧ t = some q := by
  by_cases c : zin i n = true
  · rw [if_pos c] at h
    exact ⟨zIn c, h⟩
  · rw [if_neg c] at h
    cases h
theorem zD {β : Type} {P : Prop} [Decidable P] {t : Option β} {q : β} (h : (if P then none else t) = some q) : ¬ P ∧ t = some q := by
  by_cases c : P
  · rw [if_pos c] at h
    cases h
  · rw [if_neg c] at h
    exact ⟨c, h⟩
theorem zC {β : Type} {P : Prop} [Decidable P] {t : Option β} {q : β} (h : (if P then t else none) = some q) : P ∧ t = some q := by
  by_cases c : P
  · rw [if_pos c] at h
    exact ⟨c, h⟩
  · rw [if_neg c] at h
    cases h
theorem zYes {β : Type} {P : Prop} [Decidable P] {t e q : β} (h : (if P then t else e) = q) (c : P) : t = q := by rw [if_pos c] at h; exact h
theorem zNot {β : Type} {P : Prop} [Decidable P] {t e q : β} (h : (if P then t else e) = q) (c : ¬ P) : e = q := by rw [if_neg c] at h; exact h
theorem zEnd {v r : Int32} {σ σ' : zg_S} (h : some (v, σ) = some (r, σ')) : v = r ∧ σ = σ' := by
  cases h
  exact ⟨rfl, rfl⟩
theorem zNone {β : Type} {q : β} {P : Prop} (h : none = some q) : P := by cases h
theorem zBool {r : Int32} (h : r = 0 ∨ r = 1) : narrow .boolean (.int r) = .int r := by
  rcases h with rfl | rfl <;> decide
theorem zNe {x : Int32} {k : Int} {y : Int32} (hy : y.toInt = k) (h : ¬ x = y) : x.toInt ≠ k := fun e => h (Int32.toInt_inj.mp (e.trans hy.symm))
theorem zrange (WS : va_W) : (List.range WS.length).map (fun i => WS[i]?) = WS.map some := by
  apply List.ext_getElem?
  intro i
  rw [List.getElem?_map, List.getElem?_map]
  by_cases h : i < WS.length
  · rw [List.getElem?_range h, List.getElem?_eq_getElem h]
    simp [List.getElem?_eq_getElem h]
  · rw [List.getElem?_eq_none (by simpa using h), List.getElem?_eq_none (by omega)]
    rfl
theorem zrangeT (TS : List (ClassId × FieldType)) : (List.range TS.length).filterMap (fun i => TS[i]?) = TS := by
  have h : (List.range TS.length).map (fun i => TS[i]?) = TS.map some := by
    apply List.ext_getElem?
    intro i
    rw [List.getElem?_map, List.getElem?_map]
    by_cases h : i < TS.length
    · rw [List.getElem?_range h, List.getElem?_eq_getElem h]
      simp [List.getElem?_eq_getElem h]
    · rw [List.getElem?_eq_none (by simpa using h), List.getElem?_eq_none (by omega)]
      rfl
  have e : ∀ (l : List Nat) (r : List (ClassId × FieldType)), l.map (fun i => TS[i]?) = r.map some → l.filterMap (fun i => TS[i]?) = r := by
    intro l
    induction l with
    | nil => intro r hr; cases r with
      | nil => rfl
      | cons a r => cases hr
    | cons x l ih => intro r hr; cases r with
      | nil => cases hr
      | cons a r =>
        rw [List.map_cons, List.map_cons, List.cons.injEq] at hr
        rw [List.filterMap_cons, hr.1, ih r hr.2]
  exact e _ _ h
theorem znd_of : ∀ l : List Nat, l.Nodup → va_nd l = true := by
  intro l
  induction l with
  | nil => intro _; rfl
  | cons a l ih =>
    intro h
    rw [List.nodup_cons] at h
    show (decide (a ∉ l) && va_nd l) = true
    rw [ih h.2]
    simp [h.1]
theorem znd (n : Nat) : va_nd (List.range n) = true := znd_of _ List.nodup_range
section
variable {p : Program} {l : Launch} {e : Env} {R : Room} {s : State} {m : MethodId} {args : Array Value} {below : List Frame} {meth : Method} {c : Code} {H : Heap} {locs : List Loc} {cells slots : Nat} {Q : State → Prop}
variable {cc : ByteArray} {pc : Nat} {ls : Array Slot} {rest st0 : List Value} {nL : Nat} {Ts : List Cond} {own : String} {D : va_G} {V : zz_V} {A : Nat → Prop} {L : zg_L} {ad : Nat → Nat} {cA : Nat → ClassId} {σ σ' : zg_S} {a b : Nat}
theorem zy_get {C : String} {T : u_T} {N ci index : Nat} {v : Value} (X : CallFix p m c cc nL s args Ts own) (Z : zz_S D V A s (zg_W L ad cA σ) (zg_T L cA) H locs) (hL : zg_ok L) (hk : L.2.1 a = ci) (h8 : Nat.ble (ci + 1) 8 = true) (hc : vwCl[ci]? = some (C, T, N)) (hin : ∀ w ∈ u_ws C T N, w ∈ Ts) (k : Nat) (hkN : Nat.ble (k + 1) N = true) (hl : Cond.fieldLink own index (T k).1 (T k).2.1 (T k).2.2.1 ∈ Ts) (hv : (zg_fl ci ad a (σ a))[k]? = some v) (hdg : decode cc pc = .ok (.getfield index, 3))
    (kk : W p l e R s m args below meth c H locs cells slots Q (F0 m (pc + 3) ls (v :: rest))) : W p l e R s m args below meth c H locs cells slots Q (F0 m pc ls (.ref (ad a) :: rest)) :=
  zz_get X Z a (zg_obj hL hk h8) hc hin k hkN hl hv hdg kk
theorem zy_put {C : String} {T : u_T} {N ci index : Nat} {v : Int32} (X : CallFix p m c cc nL s args Ts own) (Z : zz_S D V A s (zg_W L ad cA σ) (zg_T L cA) H locs) (hL : zg_ok L) (hk : L.2.1 a = ci) (h8 : Nat.ble (ci + 1) 8 = true) (hc : vwCl[ci]? = some (C, T, N)) (hin : ∀ w ∈ u_ws C T N, w ∈ Ts) (ty0 : Nat → FieldType) (hty : ∀ k, k < N → parseFieldDescriptor (T k).2.2.1 = some (ty0 k)) (hnm : ∀ a, a < N → ∀ b, b < N → a ≠ b → (T a).2.1 ≠ (T b).2.1) (k : Nat) (hkN : Nat.ble (k + 1) N = true) (hl : Cond.fieldLink own index (T k).1 (T k).2.1 (T k).2.2.1 ∈ Ts) (hfin : (T k).2.2.2 = false) (hn : narrow (ty0 k) (.int v) = .int v) (hfit : fits (ty0 k) (.int v) = true) (hlen : ∀ w : Nat → Int32, Nat.ble (k + 1) (zg_fl ci ad a w).length = true) (hs : ∀ w : Nat → Int32, (zg_fl ci ad a w).set k (.int v) = zg_fl ci ad a (upd w k v)) (he : σ' = zg_up σ a k v) (hdg : decode cc pc = .ok (.putfield index, 3))
    (kk : ∀ (H : Heap) (locs : List Loc), zz_S D V A s (zg_W L ad cA σ') (zg_T L cA) H locs → W p l e R s m args below meth c H locs cells slots Q (F0 m (pc + 3) ls rest)) : W p l e R s m args below meth c H locs cells slots Q (F0 m pc ls (.int v :: .ref (ad a) :: rest)) := by
  subst he
  exact zz_put X Z a (zg_obj hL hk h8) hc hin ty0 hty hnm k hkN hl hfin hn hfit (hlen _) hdg (zg_setf hL hk h8 hs) kk
theorem zg_T8 (hL : zg_ok L) (hk : L.2.1 a = 8) : (zg_T L cA)[a]? = some (cA a, .int) := by
  rw [zg_Tat (hL a (by omega)), hk]
  rfl
theorem zy_ild {N : Nat} (X : CallFix p m c cc nL s args Ts own) (Z : zz_S D V A s (zg_W L ad cA σ) (zg_T L cA) H locs) (hL : zg_ok L) (hk : L.2.1 a = 8) (hn : L.2.2 a = N) {i : Int32} (hin : vp_in i N) (hdg : decode cc pc = .ok (.iaload, 1))
    (kk : W p l e R s m args below meth c H locs cells slots Q (F0 m (pc + 1) ls (.int (σ a i.toNatClampNeg) :: rest))) : W p l e R s m args below meth c H locs cells slots Q (F0 m pc ls (.int i :: .ref (ad a) :: rest)) :=
  zz_ild X Z a a (zg_int hL hk hn) (zg_T8 hL hk) hin hdg kk
theorem zy_ist {N : Nat} (X : CallFix p m c cc nL s args Ts own) (Z : zz_S D V A s (zg_W L ad cA σ) (zg_T L cA) H locs) (hL : zg_ok L) (hk : L.2.1 a = 8) (hn : L.2.2 a = N) {i x : Int32} (hin : vp_in i N) (he : σ' = zg_up σ a i.toNatClampNeg x) (hdg : decode cc pc = .ok (.iastore, 1))
    (kk : ∀ (H : Heap) (locs : List Loc), zz_S D V A s (zg_W L ad cA σ') (zg_T L cA) H locs → W p l e R s m args below meth c H locs cells slots Q (F0 m (pc + 1) ls rest)) : W p l e R s m args below meth c H locs cells slots Q (F0 m pc ls (.int x :: .int i :: .ref (ad a) :: rest)) := by
  subst he
  exact zz_ist X Z a a (zg_int hL hk hn) (zg_T8 hL hk) hin hdg (zg_seta hL hk hn) kk
theorem zy_ald {N kd : Nat} {C : String} (X : CallFix p m c cc nL s args Ts own) (Z : zz_S D V A s (zg_W L ad cA σ) (zg_T L cA) H locs) (hL : zg_ok L) (hk : L.2.1 a = kd) (h9 : Nat.ble 9 kd = true) (h14 : Nat.ble (kd + 1) 14 = true) (hn : L.2.2 a = N) (hC : zg_ty kd = .object C) {i : Int32} (hin : vp_in i N) {v : Nat} (hv : zg_ra kd a i.toNatClampNeg = v) (hdg : decode cc pc = .ok (.aaload, 1))
    (kk : W p l e R s m args below meth c H locs cells slots Q (F0 m (pc + 1) ls (.ref (ad v) :: rest))) : W p l e R s m args below meth c H locs cells slots Q (F0 m pc ls (.int i :: .ref (ad a) :: rest)) := by
  have h14' := Nat.le_of_ble_eq_true h14
  subst hv
  exact zz_ald X Z a a (zg_ref hL hk h9 h14 hn) (by rw [zg_Tat (hL a (by omega)), hk, hC]) hin rfl hdg kk
theorem zy_cpy {n0 n1 index : Nat} (X : CallFix p m c cc nL s args Ts own) (hml : c.maxLocals = ls.size) (Z : zz_S D V A s (zg_W L ad cA σ) (zg_T L cA) H locs) (hL : zg_ok L) (hlink : Cond.methodLink own index arraycopyName ∈ Ts) (hnat : Cond.native arraycopyName ∈ Ts) (hstat : Cond.static arraycopyName ∈ Ts) (hini : Cond.initialized "java/lang/System" ∈ Ts) (hk : L.2.1 a = 8) (hn : L.2.2 a = n0) (hk1 : L.2.1 b = 8) (hn1 : L.2.2 b = n1) {sp dp n : Int32} (h1 : ¬ sp < 0) (h2 : ¬ dp < 0) (h3 : ¬ n < 0) (h4 : sp.toNatClampNeg + n.toNatClampNeg ≤ n0) (h5 : dp.toNatClampNeg + n.toNatClampNeg ≤ n1) (hframes : 1 ≤ R.frames) (hlocals : (rest.map fun v => v.category).sum + (nativeFrameWords "java/lang/System" "arraycopy" 5 + 11) ≤ R.locals) (he : σ' = zg_row σ b (va_cpy (σ a) (σ b) sp.toNatClampNeg dp.toNatClampNeg n.toNatClampNeg)) (hdg : decode cc pc = .ok (.invokestatic index, 3))
    (kk : ∀ (H : Heap) (locs : List Loc), zz_S D V A s (zg_W L ad cA σ') (zg_T L cA) H locs → W p l e R s m args below meth c H locs cells slots Q (F0 m (pc + 3) ls rest)) : W p l e R s m args below meth c H locs cells slots Q (F0 m pc ls (.int n :: .int dp :: .ref (ad b) :: .int sp :: .ref (ad a) :: rest)) := by
  subst he
  refine va_copyi (ty := .int) X.1 X.2.1 hml X.2.2.2.1 (X.2.2.2.2 _ hlink) (X.2.2.2.2 _ hnat) (X.2.2.2.2 _ hstat) (X.2.2.2.2 _ hini) Z.2.2.1 Z.1 Z.2.1 Z.2.2.2.1 a b a b (zg_int hL hk hn) (zg_int hL hk1 hn1) (zg_T8 hL hk) (zg_T8 hL hk1) rfl h1 h2 h3 h4 h5 (fun _ _ => rfl) hframes hlocals hdg (fun H1 l1 hP hD hS => ?_)
  rw [zg_seta hL hk1 hn1] at hP hD
  exact kk H1 l1 ⟨hP, hD, Z.2.2.1, hS, Z.2.2.2.2⟩
theorem zy_pV {q : vw_C} {ci : Nat} {As : List Value} (Z : zz_S D V A s (zg_W L ad cA σ) (zg_T L cA) H locs) (hL : zg_ok L) (hk : L.2.1 a = ci) (h8 : Nat.ble (ci + 1) 8 = true) (hc : vwCl[ci]? = some q) : PreV s H q.1 (ad a) (va_Pc (.ref (ad a) :: As) (zz_C D V (zg_W L ad cA σ) (zg_T L cA) H.size)) As := zz_pV Z a (zg_obj hL hk h8) hc
theorem zy_ci {WS WS1 : va_W} {TYS TYS1 : List (ClassId × FieldType)} {r0 : Int32} {av : Array Value} (Z : zz_S D V A s WS TYS H locs) (hr : va_Run p l e R s m args below meth c H locs cells slots 0 0 (F0 m pc ls st0) rest (va_Qi (fun r (_ : Unit) => r = r0) (fun _ t => zz_B D (va_A WS H.size) WS1 TYS1 t) (va_A WS H.size) av) (va_A WS H.size))
    (kk : ∀ (H : Heap) (locs : List Loc), zz_S D V A s WS1 TYS1 H locs → W p l e R s m args below meth c H locs cells slots Q (F0 m (pc + 3) ls (.int r0 :: rest))) : W p l e R s m args below meth c H locs cells slots Q (F0 m pc ls st0) := by
  refine zz_ci (WC := WS) (TC := TYS) (WR := []) (TR := []) (k := cells) (n := slots) (post := fun r (_ : Unit) => r = r0) (WF := fun _ => WS1) (TF := fun _ => TYS1) Z (List.range WS.length) [] (List.range TYS.length) [] (zrange WS) rfl (znd _) rfl rfl (zrangeT TYS) rfl (fun _ => hr) rfl rfl (fun r u H1 l1 hp Z1 => ?_)
  subst hp
  exact kk H1 l1 Z1
theorem zy_cv {WS WS1 : va_W} {TYS TYS1 : List (ClassId × FieldType)} {av : Array Value} (Z : zz_S D V A s WS TYS H locs) (hr : va_Run p l e R s m args below meth c H locs cells slots 0 0 (F0 m pc ls st0) rest (va_Qv (fun (_ : Unit) => True) (fun _ t => zz_B D (va_A WS H.size) WS1 TYS1 t) (va_A WS H.size) av) (va_A WS H.size))
    (kk : ∀ (H : Heap) (locs : List Loc), zz_S D V A s WS1 TYS1 H locs → W p l e R s m args below meth c H locs cells slots Q (F0 m (pc + 3) ls rest)) : W p l e R s m args below meth c H locs cells slots Q (F0 m pc ls st0) := by
  refine zz_cv (WC := WS) (TC := TYS) (WR := []) (TR := []) (k := cells) (n := slots) (post := fun (_ : Unit) => True) (WF := fun _ => WS1) (TF := fun _ => TYS1) Z (List.range WS.length) [] (List.range TYS.length) [] (zrange WS) rfl (znd _) rfl rfl (zrangeT TYS) rfl (fun _ => hr) rfl rfl (fun u H1 l1 hp Z1 => ?_)
  exact kk H1 l1 Z1
theorem zy_iret {r0 v : Int32} {σf : zg_S} (X : CallFix p m c cc nL s args Ts own) (hr : meth.sig.returnType = some .int) (hlk : meth.locks = false) (Z : zz_S D V A s (zg_W L ad cA σ) (zg_T L cA) H locs) (h : v = r0 ∧ σ = σf) (hdg : decode cc pc = .ok (.ireturn, 1)) : W p l e R s m args below meth c H locs cells slots (MQ below (va_Qi (fun r (_ : Unit) => r = r0) (fun _ t => zz_B D A (zg_W L ad cA σf) (zg_T L cA) t) A) args s cells slots A) (F0 m pc ls [.int v]) := by
  obtain ⟨rfl, rfl⟩ := h
  exact zz_iret (S := Unit) (post := fun r (_ : Unit) => r = v) (WF := fun _ => zg_W L ad cA σ) (TF := fun _ => zg_T L cA) X hr hlk Z () rfl (List.range _) (List.range _) (znd _) (zrange _) (zrangeT _) hdg
theorem zy_zret {r0 v : Int32} {σf : zg_S} (X : CallFix p m c cc nL s args Ts own) (hr : meth.sig.returnType = some .boolean) (hlk : meth.locks = false) (Z : zz_S D V A s (zg_W L ad cA σ) (zg_T L cA) H locs) (hb : v = 0 ∨ v = 1) (h : v = r0 ∧ σ = σf) (hdg : decode cc pc = .ok (.ireturn, 1)) : W p l e R s m args below meth c H locs cells slots (MQ below (va_Qi (fun r (_ : Unit) => r = r0) (fun _ t => zz_B D A (zg_W L ad cA σf) (zg_T L cA) t) A) args s cells slots A) (F0 m pc ls [.int v]) := by
  obtain ⟨rfl, rfl⟩ := h
  exact zz_zret (S := Unit) (post := fun r (_ : Unit) => r = v) (WF := fun _ => zg_W L ad cA σ) (TF := fun _ => zg_T L cA) X hr hlk Z (zBool hb) () rfl (List.range _) (List.range _) (znd _) (zrange _) (zrangeT _) hdg
theorem zy_vret {r0 v : Int32} {σf : zg_S} (X : CallFix p m c cc nL s args Ts own) (hr : meth.sig.returnType = none) (hlk : meth.locks = false) (Z : zz_S D V A s (zg_W L ad cA σ) (zg_T L cA) H locs) (h : v = r0 ∧ σ = σf) (hdg : decode cc pc = .ok (.return_, 1)) : W p l e R s m args below meth c H locs cells slots (MQ below (va_Qv (fun (_ : Unit) => True) (fun _ t => zz_B D A (zg_W L ad cA σf) (zg_T L cA) t) A) args s cells slots A) (F0 m pc ls []) := by
  obtain ⟨rfl, rfl⟩ := h
  exact zz_vret (S := Unit) (post := fun (_ : Unit) => True) (WF := fun _ => zg_W L ad cA σ) (TF := fun _ => zg_T L cA) X hr hlk Z () trivial (List.range _) (List.range _) (znd _) (zrange _) (zrangeT _) hdg
/-- contracts: a method of the world L, its picture σ before it, its answer r0 and the picture σf behind it -/
abbrev zM_I (l : Launch) (y : MethodName) (ws : List Cond) (fr lo : Nat) (D : va_G) (V : zz_V) (L : zg_L) (ad : Nat → Nat) (cA : Nat → ClassId) (av : List Value) (σ : zg_S) (r0 : Int32) (σf : zg_S) : Prop := ∀ sz : Nat, Met l y ws ({ frames := fr, cells := 0, slots := 0, locals := lo }) (va_Pc av (zz_C D V (zg_W L ad cA σ) (zg_T L cA) sz)) (va_Qi (fun r (_ : Unit) => r = r0) (fun _ t => zz_B D (va_A (zg_W L ad cA σ) sz) (zg_W L ad cA σf) (zg_T L cA) t) (va_A (zg_W L ad cA σ) sz)) 0 0 (va_A (zg_W L ad cA σ) sz)
abbrev zM_V (l : Launch) (y : MethodName) (ws : List Cond) (fr lo : Nat) (D : va_G) (V : zz_V) (L : zg_L) (ad : Nat → Nat) (cA : Nat → ClassId) (av : List Value) (σ : zg_S) (r0 : Int32) (σf : zg_S) : Prop := ∀ sz : Nat, Met l y ws ({ frames := fr, cells := 0, slots := 0, locals := lo }) (va_Pc av (zz_C D V (zg_W L ad cA σ) (zg_T L cA) sz)) (va_Qv (fun (_ : Unit) => True) (fun _ t => zz_B D (va_A (zg_W L ad cA σ) sz) (zg_W L ad cA σf) (zg_T L cA) t) (va_A (zg_W L ad cA σ) sz)) 0 0 (va_A (zg_W L ad cA σ) sz)
end
theorem xk_all : ∀ p, p < 189 → (xkd p = 0 → xkd (p + 1) = 11 ∧ xln (p + 1) = 9 ∧ xkd (p + 2) = 8 ∧ xln (p + 2) = 3) ∧ (xkd p = 2 → xkd (p + 1) = 8 ∧ xln (p + 1) = 24) ∧ (xkd p = 3 → xkd (p + 1) = 4 ∧ xkd (p + 2) = 2) ∧ (xkd p = 5 → xkd (p + 1) = 8 ∧ xln (p + 1) = 96 ∧ xkd (p + 2) = 8 ∧ xln (p + 2) = 96) := by decide +kernel
theorem xk_st : ∀ p, p < 189 → xkd p = 11 → ∀ j, j < 9 → xkd (p + 2 + j) = 4 := by decide +kernel
theorem xk_lt {p k : Nat} (h : xkd p = k) (hk : Nat.ble (k + 1) 99 = true) : p < 189 := xL_ok p (by
  have := Nat.le_of_ble_eq_true hk
  show xkd p < 99
  omega)
theorem xB1 {p : Nat} (h : xkd p = 0) : xkd (p + 1) = 11 := ((xk_all p (xk_lt h rfl)).1 h).1
theorem xB1l {p : Nat} (h : xkd p = 0) : xln (p + 1) = 9 := ((xk_all p (xk_lt h rfl)).1 h).2.1
theorem xB2 {p : Nat} (h : xkd p = 0) : xkd (p + 2) = 8 := ((xk_all p (xk_lt h rfl)).1 h).2.2.1
theorem xB2l {p : Nat} (h : xkd p = 0) : xln (p + 2) = 3 := ((xk_all p (xk_lt h rfl)).1 h).2.2.2
theorem xH1 {p : Nat} (h : xkd p = 2) : xkd (p + 1) = 8 := ((xk_all p (xk_lt h rfl)).2.1 h).1
theorem xH1l {p : Nat} (h : xkd p = 2) : xln (p + 1) = 24 := ((xk_all p (xk_lt h rfl)).2.1 h).2
theorem xO1 {p : Nat} (h : xkd p = 3) : xkd (p + 1) = 4 := ((xk_all p (xk_lt h rfl)).2.2.1 h).1
theorem xO2 {p : Nat} (h : xkd p = 3) : xkd (p + 2) = 2 := ((xk_all p (xk_lt h rfl)).2.2.1 h).2
theorem xT1 {p : Nat} (h : xkd p = 5) : xkd (p + 1) = 8 := ((xk_all p (xk_lt h rfl)).2.2.2 h).1
theorem xT1l {p : Nat} (h : xkd p = 5) : xln (p + 1) = 96 := ((xk_all p (xk_lt h rfl)).2.2.2 h).2.1
theorem xT2 {p : Nat} (h : xkd p = 5) : xkd (p + 2) = 8 := ((xk_all p (xk_lt h rfl)).2.2.2 h).2.2.1
theorem xT2l {p : Nat} (h : xkd p = 5) : xln (p + 2) = 96 := ((xk_all p (xk_lt h rfl)).2.2.2 h).2.2.2
theorem xS {p j : Nat} (h : xkd p = 11) (hj : j < 9) : xkd (p + 2 + j) = 4 := xk_st p (xk_lt h rfl) h j hj
theorem xT {j : Nat} (hj : j < 14) : xkd (11 + 3 * j) = 5 := (by decide +kernel : ∀ j, j < 14 → xkd (11 + 3 * j) = 5) j hj
theorem xA {j : Nat} (hj : j < 6) : xkd (81 + 12 * j) = 0 := (by decide +kernel : ∀ j, j < 6 → xkd (81 + 12 * j) = 0) j hj
theorem xH {j : Nat} (hj : j < 4) : xkd (53 + 2 * j) = 2 := (by decide +kernel : ∀ j, j < 4 → xkd (53 + 2 * j) = 2) j hj
theorem xO {j : Nat} (hj : j < 5) : xkd (61 + 4 * j) = 3 := (by decide +kernel : ∀ j, j < 5 → xkd (61 + 4 * j) = 3) j hj

section
variable {p : Program} {l : Launch} {e : Env} {R : Room} {s : State} {m : MethodId} {args : Array Value} {below : List Frame} {meth : Method} {c : Code} {H : Heap} {locs : List Loc} {cells slots : Nat} {Q : State → Prop}
variable {cc : ByteArray} {pc : Nat} {ls : Array Slot} {rest st0 : List Value} {nL : Nat} {Ts : List Cond} {own : String} {D : va_G} {V : zz_V} {A : Nat → Prop} {L : zg_L} {ad : Nat → Nat} {cA : Nat → ClassId} {σ σ' : zg_S}
theorem zNar {ty : FieldType} {v : Int32} (h : vp_nar ty v = v) (e : narrow ty (.int v) = .int (vp_nar ty v)) : narrow ty (.int v) = .int v := by rw [e, h]
theorem zy_cret {ty : FieldType} {r0 v : Int32} {σf : zg_S} (X : CallFix p m c cc nL s args Ts own) (hr : meth.sig.returnType = some ty) (hlk : meth.locks = false) (Z : zz_S D V A s (zg_W L ad cA σ) (zg_T L cA) H locs) (hn : narrow ty (.int v) = .int v) (h : v = r0 ∧ σ = σf) (hdg : decode cc pc = .ok (.ireturn, 1)) : W p l e R s m args below meth c H locs cells slots (MQ below (va_Qi (fun r (_ : Unit) => r = r0) (fun _ t => zz_B D A (zg_W L ad cA σf) (zg_T L cA) t) A) args s cells slots A) (F0 m pc ls [.int v]) := by
  obtain ⟨rfl, rfl⟩ := h
  exact W.zret (v := v) X.1 X.2.1 hr hn (fun t ht hW => ⟨⟨v, (), rfl, rfl, by rw [ht]; exact Z.1, va_K.moved hW.alike Z.2.2.1, Z.2.1⟩, Z.2.2.2.1.F ht⟩) Z.2.2.2.1.2.2 hdg hlk
theorem zy_aret {r0 a : Nat} (X : CallFix p m c cc nL s args Ts own) (hr : meth.sig.returnType = some (.object "java/lang/String")) (hlk : meth.locks = false) (Z : zz_S D V A s (zg_W L ad cA σ) (zg_T L cA) H locs) (h : a = r0) (hdg : decode cc pc = .ok (.areturn, 1)) : W p l e R s m args below meth c H locs cells slots (MQ below (va_Qr (fun (_ : Unit) => True) (fun _ a t => a = r0 ∧ zz_B D A (zg_W L ad cA σ) (zg_T L cA) t) A) args s cells slots A) (F0 m pc ls [.ref a]) := by
  subst h
  exact W.aret X.1 X.2.1 hr (Or.inl ⟨_, rfl⟩) (Or.inr ⟨_, rfl⟩) (fun t ht hW => ⟨⟨(), a, rfl, trivial, rfl, by rw [ht]; exact Z.1, va_K.moved hW.alike Z.2.2.1, Z.2.1⟩, Z.2.2.2.1.F ht⟩) Z.2.2.2.1.2.2 hdg hlk
theorem zy_cr {WS WS1 : va_W} {TYS TYS1 : List (ClassId × FieldType)} {r0 : Nat} {av : Array Value} (Z : zz_S D V A s WS TYS H locs) (hr : va_Run p l e R s m args below meth c H locs cells slots 0 0 (F0 m pc ls st0) rest (va_Qr (fun (_ : Unit) => True) (fun _ a t => a = r0 ∧ zz_B D (va_A WS H.size) WS1 TYS1 t) (va_A WS H.size) av) (va_A WS H.size))
    (kk : ∀ (H : Heap) (locs : List Loc), zz_S D V A s WS1 TYS1 H locs → W p l e R s m args below meth c H locs cells slots Q (F0 m (pc + 3) ls (.ref r0 :: rest))) : W p l e R s m args below meth c H locs cells slots Q (F0 m pc ls st0) := by
  have hC := zrange WS
  have hFc := va_free (wc := WS) Z.2.1 Z.2.2.2.1 Z.2.2.2.2.1 (List.range WS.length) hC
  refine va_callr hr Z.2.2.2.1 (fun q _ h => hFc q h) hFc (fun u ra t H1 locs1 ht hvm hw hB hz1 hk1 hS => ?_)
  obtain ⟨rfl, hP1, hK1, hD1⟩ := hB
  rw [ht] at hP1
  obtain ⟨hP, hD⟩ := va_join Z.1 Z.2.1 (List.range WS.length) [] hC (show ([] : List Nat).map (fun i => WS[i]?) = ([] : va_W).map some from rfl) rfl (fun i hi => by cases hi) hk1 hFc hP1 hD1
  exact kk H1 locs1 ⟨hP, hD, va_K.moved hvm.symm hK1, hS, Z.2.2.2.2⟩
theorem zy_pVs {WS : va_W} {TYS : List (ClassId × FieldType)} {As : List Value} {q : Nat} (Z : zz_S D V A s WS TYS H locs) (hq : q < 6) : PreV s H "java/lang/String" (V.1 q) (va_Pc (.ref (V.1 q) :: As) (zz_C D V WS TYS H.size)) As := ⟨zz_C.blind, vk_recv Z.2.2.2.2.2.2.2.2.1 hq Z.2.2.2.1, fun U hU hW => ⟨rfl, by rw [hU], by rw [hU]; exact Z.1, va_K.moved hW.alike Z.2.2.1, Z.2.1.weaken (fun _ _ _ _ => trivial), by rw [hU]; exact Z.2.2.2.2.2.go Z.2.2.2.1 (zz_AB Z) hW⟩⟩
end
def zg_nm (a : Int32) : Nat := if a = 0 then 3 else if a = 1 then 4 else 5
theorem zg_nm_lt (a : Int32) : zg_nm a < 6 := by
  unfold zg_nm
  by_cases h : a = 0
  · rw [if_pos h]; omega
  · rw [if_neg h]
    by_cases h : a = 1
    · rw [if_pos h]; omega
    · rw [if_neg h]; omega
theorem mk_0 : ML.2.1 0 = 7 := by decide
theorem mk_1 : ML.2.1 1 = 8 := by decide
theorem ml_1 : ML.2.2 1 = 3047 := by decide
theorem mk_2 : ML.2.1 2 = 8 := by decide
theorem ml_2 : ML.2.2 2 = 3047 := by decide
theorem mk_3 : ML.2.1 3 = 8 := by decide
theorem ml_3 : ML.2.2 3 = 3047 := by decide
theorem mk_4 : ML.2.1 4 = 8 := by decide
theorem ml_4 : ML.2.2 4 = 4 := by decide
theorem mk_5 : ML.2.1 5 = 8 := by decide
theorem ml_5 : ML.2.2 5 = 4 := by decide
theorem mk_6 : ML.2.1 6 = 8 := by decide
theorem ml_6 : ML.2.2 6 = 96 := by decide
theorem mk_7 : ML.2.1 7 = 8 := by decide
theorem ml_7 : ML.2.2 7 = 5 := by decide
theorem mk_8 : ML.2.1 8 = 8 := by decide
theorem ml_8 : ML.2.2 8 = 5 := by decide
theorem mk_9 : ML.2.1 9 = 8 := by decide
theorem ml_9 : ML.2.2 9 = 5 := by decide
theorem mk_10 : ML.2.1 10 = 8 := by decide
theorem ml_10 : ML.2.2 10 = 5 := by decide
theorem mk_11 : ML.2.1 11 = 8 := by decide
theorem ml_11 : ML.2.2 11 = 120 := by decide
theorem mk_12 : ML.2.1 12 = 8 := by decide
theorem ml_12 : ML.2.2 12 = 47 := by decide
theorem mk_13 : ML.2.1 13 = 8 := by decide
theorem ml_13 : ML.2.2 13 = 96 := by decide
theorem mk_14 : ML.2.1 14 = 8 := by decide
theorem ml_14 : ML.2.2 14 = 128 := by decide
theorem mk_15 : ML.2.1 15 = 8 := by decide
theorem ml_15 : ML.2.2 15 = 100 := by decide
theorem mk_16 : ML.2.1 16 = 8 := by decide
theorem ml_16 : ML.2.2 16 = 24 := by decide
theorem mk_17 : ML.2.1 17 = 8 := by decide
theorem ml_17 : ML.2.2 17 = 60 := by decide
theorem mk_18 : ML.2.1 18 = 8 := by decide
theorem ml_18 : ML.2.2 18 = 60 := by decide
theorem xk_0 : XL.2.1 0 = 6 := by decide
theorem xk_1 : XL.2.1 1 = 9 := by decide
theorem xl_1 : XL.2.2 1 = 14 := by decide
theorem xk_2 : XL.2.1 2 = 10 := by decide
theorem xl_2 : XL.2.2 2 = 6 := by decide
theorem xk_3 : XL.2.1 3 = 12 := by decide
theorem xl_3 : XL.2.2 3 = 4 := by decide
theorem xk_4 : XL.2.1 4 = 13 := by decide
theorem xl_4 : XL.2.2 4 = 5 := by decide
theorem xk_5 : XL.2.1 5 = 8 := by decide
theorem xl_5 : XL.2.2 5 = 60 := by decide
theorem xk_6 : XL.2.1 6 = 8 := by decide
theorem xl_6 : XL.2.2 6 = 96 := by decide
theorem xk_7 : XL.2.1 7 = 1 := by decide
theorem xk_8 : XL.2.1 8 = 5 := by decide
theorem xk_81 : XL.2.1 81 = 0 := by decide
theorem xk_153 : XL.2.1 153 = 0 := by decide
theorem xk_154 : XL.2.1 154 = 11 := by decide
theorem xl_154 : XL.2.2 154 = 9 := by decide
theorem xk_155 : XL.2.1 155 = 8 := by decide
theorem xl_155 : XL.2.2 155 = 3 := by decide
theorem xk_165 : XL.2.1 165 = 0 := by decide
theorem xk_166 : XL.2.1 166 = 11 := by decide
theorem xl_166 : XL.2.2 166 = 9 := by decide
theorem xk_177 : XL.2.1 177 = 0 := by decide
