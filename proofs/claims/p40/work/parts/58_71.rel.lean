section
/-! WHAT BOTH SIDES WORK OUT, over the reference's row g: 0 N, 1 texts, 2 hour, 3 coins, 4 spoilt, 5 torn, 6 z, 7 first, 8 width, 9 gust, 10 mode, 11 + 4 k stall k, 47 + 200 t text t -/
def sT (g : Nat → Int32) : Int32 := (g 2 - g 2 / 10 * 10) - 5
def sO (g : Nat → Int32) : Int32 := sT g / 2
def sAbs (x : Int32) : Int32 := if 0 ≤ x then x else 0 - x
def sHeat (g : Nat → Int32) : Int32 := 45 - (5 * sAbs (sT g))
def sShd (g : Nat → Int32) (F pl : Int32) : Int32 := if pl < F + sO g then 0 else if (F + sO g) + g 8 ≤ pl then 0 else 1
def sHeld (a lo hi : Int32) : Int32 := if lo < (if hi < a then hi else a) then (if hi < a then hi else a) else lo
def sJn (a0 a1 a2 : Int32) : Int32 := if a0 = 38 then (if a1 = 0 then 0 else (if a2 = 0 then 0 else 1)) else (if a0 = 42 then a1 * a2 else (if a0 = 43 then a1 + a2 else (if a0 = 45 then a1 - a2 else (if a0 = 60 then (if a2 ≤ a1 then 0 else 1) else (if a0 = 61 then (if a1 = a2 then 1 else 0) else (if a0 = 62 then (if a1 ≤ a2 then 0 else 1) else (if a0 = 124 then (if a1 = 0 then (if a2 = 0 then 0 else 1) else 1) else (if a2 = 0 then 0 else a1 / a2))))))))
def sNm (key v a b c : Int32) : Int32 := if key = 0 then (if v = 104 then a else if v = 103 then b else c) else if key = 1 then (if v = 99 then a else b) else (if v = 103 then a else b)
def ev1 (key a b c w v : Int32) (st : List Int32) : List Int32 := if w = 2 then (if v = 33 then (match st with
  | x :: r => (if x = 0 then 1 else 0) :: r
  | [] => []) else (match st with
  | y :: x :: r => sJn v x y :: r
  | _ => [])) else (if w = 0 then v else sNm key v a b c) :: st
def evs (g : Nat → Int32) (b : Nat) (key x y z : Int32) : Nat → Nat → List Int32 → List Int32
  | _, 0, st => st
  | k, n + 1, st => evs g b key x y z (k + 1) n (ev1 key x y z (g (b + 2 * k)) (g (b + 2 * k + 1)) st)
def evT (g : Nat → Int32) (t : Nat) (x y z : Int32) : Int32 := (evs g (47 + 200 * t + 4) (g (47 + 200 * t)) x y z 0 (g (47 + 200 * t + 2)).toNatClampNeg []).headD 0
/-- the last text of a key among the first n; -1 -/
def sCn (g : Nat → Int32) (key : Int32) : Nat → Int32
  | 0 => -1
  | t + 1 => if g (47 + 200 * t) = key then Int32.ofNat t else sCn g key t
def sCt (g : Nat → Int32) (key : Int32) : Int32 := sCn g key (g 1).toNatClampNeg
def sPl (g : Nat → Int32) (k : Nat) : Int32 := if 0 ≤ sCt g 0 then sHeld (evT g (sCt g 0).toNatClampNeg (sHeat g) (g (11 + 4 * k + 2)) (g (11 + 4 * k + 3))) 0 (g (11 + 4 * k + 2)) else sHeat g / 5
def sSun (kind a : Int32) : Int32 := if kind = 1 then 2 * a else (if kind = 2 then 0 else (if kind = 3 then (2 * a) + 5 else (if kind = 4 then 0 else (if kind = 5 then a / 2 else a))))
def sMin (y go : Int32) : Int32 := if y < go then y else go
def sLs (g : Nat → Int32) (k : Nat) : Int32 := if g (11 + 4 * k + 2) = 0 then 0 else sMin (if sShd g (g 7) (g (11 + 4 * k + 1)) = 0 then sSun (g (11 + 4 * k)) (sPl g k) else if g (11 + 4 * k) = 4 then 2 else 0) (g (11 + 4 * k + 2))
def sSt (g : Nat → Int32) (k : Nat) : Nat → Int32 := upd (upd (upd g 4 (g 4 + sLs g k)) (11 + 4 * k + 2) (g (11 + 4 * k + 2) - sLs g k)) 3 (g 3 + if sShd g (g 7) (g (11 + 4 * k + 1)) = 0 then 0 else g (11 + 4 * k + 3))
def sLp (g : Nat → Int32) : Nat → Nat → Int32
  | 0 => g
  | k + 1 => sSt (sLp g k) k
def sZ (z : Int32) : Int32 := (z * 1103515245) + 12345
def sD (z : Int32) : Int32 := (Int32.toUInt32 z >>> (Int32.toUInt32 8 &&& Int32.toUInt32 31)).toInt32
def sBy3 (z : Int32) : Int32 := (sD z - sD z / 3 * 3) - 1
def sBl (g : Nat → Int32) : Nat → Int32 := if sD (sZ (g 6)) - sD (sZ (g 6)) / 100 * 100 < g 9 then upd (upd (upd g 6 (sZ (sZ (g 6)))) 7 (sHeld (g 7 + sBy3 (sZ (sZ (g 6)))) 0 (12 - g 8))) 5 (g 5 + if sBy3 (sZ (sZ (g 6))) = 0 then 0 else 1) else upd g 6 (sZ (g 6))
def sHr (g : Nat → Int32) (F : Int32) : Nat → Int32 := upd (sBl (sLp (upd g 7 F) (g 0).toNatClampNeg)) 2 (sBl (sLp (upd g 7 F) (g 0).toNatClampNeg) 2 + 1)
def sTo (g : Nat → Int32) (mv : Int32) : Int32 := if mv = 1 then (if (g 7 - 1) < 0 then 0 else g 7 - 1) else (if mv = 2 then (if 12 - g 8 < g 7 + 1 then 12 - g 8 else g 7 + 1) else g 7)
def sPay (g : Nat → Int32) (F : Int32) : Nat → Int32
  | 0 => 0
  | k + 1 => if sShd g F (g (11 + 4 * k + 1)) = 0 then sPay g F k else sPay g F k + g (11 + 4 * k + 3)
def sPy (g : Nat → Int32) (mv : Int32) : Int32 := sPay g (sTo g mv) (g 0).toNatClampNeg
def sByPay (g : Nat → Int32) : Int32 := if sPy g 2 ≤ (if sPy g 1 ≤ sPy g 0 then sPy g 0 else sPy g 1) then (if sPy g 1 ≤ sPy g 0 then 0 else 1) else 2
def sDir (g : Nat → Int32) (k : Nat) : Int32 := if g 7 + sO g ≤ g (11 + 4 * k + 1) then 2 else 1
def sLo (g : Nat → Int32) (k : Nat) : Int32 := if sShd g (g 7) (g (11 + 4 * k + 1)) = 0 then sLs g k else 0
def sBL (g : Nat → Int32) : Nat → Int32 × Int32
  | 0 => (0, 0)
  | k + 1 => if sLo g k ≤ (sBL g k).2 then sBL g k else (sDir g k, sLo g k)
def sHl (g : Nat → Int32) : Int32 := if g 10 = 1 then (sBL g (g 0).toNatClampNeg).1 else if g 10 = 2 then sByPay g else 0
/-- one hour -/
def sGo (g : Nat → Int32) : Nat → Int32 := sHr g (sTo g (sHl g))
def sGn (g : Nat → Int32) : Nat → Nat → Int32
  | 0 => g
  | n + 1 => sGo (sGn g n)
/-! bounds -/
def gB (g : Nat → Int32) : Prop := (0 ≤ (g 0).toInt ∧ (g 0).toInt ≤ 9) ∧ (0 ≤ (g 2).toInt ∧ (g 2).toInt ≤ 20000) ∧ (1 ≤ (g 8).toInt ∧ (g 8).toInt ≤ 6) ∧ (0 ≤ (g 7).toInt ∧ (g 7).toInt ≤ 12 - (g 8).toInt) ∧ (0 ≤ (g 9).toInt ∧ (g 9).toInt ≤ 100) ∧ (0 ≤ (g 10).toInt ∧ (g 10).toInt ≤ 2)
/-- coins, spoilt, torn by the hours that went by -/
def gC (g : Nat → Int32) : Prop := (0 ≤ (g 3).toInt ∧ (g 3).toInt ≤ 891 * (g 2).toInt) ∧ (0 ≤ (g 4).toInt ∧ (g 4).toInt ≤ 8991 * (g 2).toInt) ∧ (0 ≤ (g 5).toInt ∧ (g 5).toInt ≤ (g 2).toInt)
def gSb (g : Nat → Int32) (k : Nat) : Prop := (0 ≤ (g (11 + 4 * k)).toInt ∧ (g (11 + 4 * k)).toInt ≤ 5) ∧ (0 ≤ (g (11 + 4 * k + 1)).toInt ∧ (g (11 + 4 * k + 1)).toInt ≤ 11) ∧ (0 ≤ (g (11 + 4 * k + 2)).toInt ∧ (g (11 + 4 * k + 2)).toInt ≤ 999) ∧ (0 ≤ (g (11 + 4 * k + 3)).toInt ∧ (g (11 + 4 * k + 3)).toInt ≤ 99)
def gSs (g : Nat → Int32) : Prop := ∀ k : Nat, (k : Int) < (g 0).toInt → gSb g k
/-! arithmetic -/
theorem zdivn (x c : Int32) (n : Int) (hc : c.toInt = n) (hn : 1 ≤ n) (h : 0 ≤ x.toInt) : (x / c).toInt = x.toInt / n := by
  have hb : x.toInt < 2147483648 := Int32.toInt_lt x
  have e : x.toInt.tdiv n = x.toInt / n := Int.tdiv_eq_ediv_of_nonneg h
  have h1 : 0 ≤ x.toInt / n := Int.ediv_nonneg h (by omega)
  have h2 : x.toInt / n ≤ x.toInt := Int.ediv_le_self _ h
  rw [Int32.toInt_div, hc, e]
  exact Int.bmod_eq_of_le (by omega) (by omega)
theorem zrem (x c : Int32) (n : Int) (hc : c.toInt = n) (hn : 1 ≤ n) (hn2 : n ≤ 1000) (h : 0 ≤ x.toInt) : (x - x / c * c).toInt = x.toInt % n := by
  have hb : x.toInt < 2147483648 := Int32.toInt_lt x
  have e := zdivn x c n hc hn h
  have h1 : 0 ≤ x.toInt / n := Int.ediv_nonneg h (by omega)
  have h3 : n * (x.toInt / n) + x.toInt % n = x.toInt := Int.mul_ediv_add_emod x.toInt n
  have h4 : 0 ≤ x.toInt % n := Int.emod_nonneg _ (by omega)
  have h6 : 0 ≤ n * (x.toInt / n) := Int.mul_nonneg (by omega) h1
  have em : (x / c * c).toInt = x.toInt / n * n := by
    rw [Int32.toInt_mul, e, hc]
    have h5 : x.toInt / n * n = n * (x.toInt / n) := Int.mul_comm _ _
    exact Int.bmod_eq_of_le (by omega) (by omega)
  rw [zsub _ _ (by rw [em, Int.mul_comm]; omega) (by rw [em, Int.mul_comm]; omega), em, Int.mul_comm]
  omega
theorem zt_10 : (10 : Int32).toInt = 10 := by decide
theorem sT_b {g : Nat → Int32} (h : 0 ≤ (g 2).toInt) : (sT g).toInt = (g 2).toInt % 10 - 5 := by
  have e5 := zt_5
  have e := zrem (g 2) 10 10 zt_10 (by decide) (by decide) h
  unfold sT
  rw [zsub _ _ (by omega) (by omega), e, e5]
theorem sO_b {g : Nat → Int32} (h : 0 ≤ (g 2).toInt) : -2 ≤ (sO g).toInt ∧ (sO g).toInt ≤ 2 := by
  have e := sT_b h
  have h1 : (-5 : Int) ≤ (sT g).toInt := by omega
  have h2 : (sT g).toInt ≤ 4 := by omega
  unfold sO
  have hc : (sT g).toInt = -5 ∨ (sT g).toInt = -4 ∨ (sT g).toInt = -3 ∨ (sT g).toInt = -2 ∨ (sT g).toInt = -1 ∨ (sT g).toInt = 0 ∨ (sT g).toInt = 1 ∨ (sT g).toInt = 2 ∨ (sT g).toInt = 3 ∨ (sT g).toInt = 4 := by omega
  have k : ∀ n : Int32, (sT g).toInt = n.toInt → sT g = n := fun n h => Int32.toInt_inj.mp h
  rcases hc with c | c | c | c | c | c | c | c | c | c
  · rw [k (-5) (c.trans (by decide))]; decide
  · rw [k (-4) (c.trans (by decide))]; decide
  · rw [k (-3) (c.trans (by decide))]; decide
  · rw [k (-2) (c.trans (by decide))]; decide
  · rw [k (-1) (c.trans (by decide))]; decide
  · rw [k 0 (c.trans (by decide))]; decide
  · rw [k 1 (c.trans (by decide))]; decide
  · rw [k 2 (c.trans (by decide))]; decide
  · rw [k 3 (c.trans (by decide))]; decide
  · rw [k 4 (c.trans (by decide))]; decide
theorem sAbs_b {x : Int32} (h1 : -5 ≤ x.toInt) (h2 : x.toInt ≤ 4) : 0 ≤ (sAbs x).toInt ∧ (sAbs x).toInt ≤ 5 := by
  have e0 := zt_0
  unfold sAbs
  by_cases c : 0 ≤ x
  · rw [if_pos c]
    have := zle c
    omega
  · rw [if_neg c]
    have := znle c
    rw [zsub _ _ (by omega) (by omega)]
    omega
theorem sHeat_b {g : Nat → Int32} (h : 0 ≤ (g 2).toInt) : 20 ≤ (sHeat g).toInt ∧ (sHeat g).toInt ≤ 45 := by
  have e := sT_b h
  have e45 := zt_45
  have e5 := zt_5
  obtain ⟨a, b⟩ := sAbs_b (x := sT g) (by omega) (by omega)
  unfold sHeat
  have em := zTmul (zTl zt_5) (zTs (sAbs (sT g))) (by omega) (by omega)
  rw [zTe (zTsub (zTl zt_45) em (by omega) (by omega))]
  omega
theorem sShd_01 (g : Nat → Int32) (F pl : Int32) : sShd g F pl = 0 ∨ sShd g F pl = 1 := by
  unfold sShd
  by_cases c : pl < F + sO g
  · rw [if_pos c]; exact Or.inl rfl
  · rw [if_neg c]
    by_cases d : (F + sO g) + g 8 ≤ pl
    · rw [if_pos d]; exact Or.inl rfl
    · rw [if_neg d]; exact Or.inr rfl
theorem sHeld_b (a hi : Int32) (h : 0 ≤ hi.toInt) : 0 ≤ (sHeld a 0 hi).toInt ∧ (sHeld a 0 hi).toInt ≤ hi.toInt := by
  have e0 := zt_0
  unfold sHeld
  by_cases c : hi < a
  · rw [if_pos c]
    by_cases d : (0 : Int32) < hi
    · rw [if_pos d]; omega
    · rw [if_neg d]; omega
  · rw [if_neg c]
    have := znlt c
    by_cases d : (0 : Int32) < a
    · rw [if_pos d]; have := zlt d; omega
    · rw [if_neg d]; omega
theorem sPl_b {g : Nat → Int32} {k : Nat} (hg : gB g) (hs : gSb g k) : 0 ≤ (sPl g k).toInt ∧ (sPl g k).toInt ≤ 999 := by
  obtain ⟨_, h2, _⟩ := hg
  obtain ⟨_, _, h3, _⟩ := hs
  unfold sPl
  by_cases c : 0 ≤ sCt g 0
  · rw [if_pos c]
    have := sHeld_b (evT g (sCt g 0).toNatClampNeg (sHeat g) (g (11 + 4 * k + 2)) (g (11 + 4 * k + 3))) (g (11 + 4 * k + 2)) h3.1
    omega
  · rw [if_neg c]
    have := sHeat_b h2.1
    rw [zdivn _ 5 5 zt_5 (by decide) (by omega)]
    omega
theorem sSun_b {kind a : Int32} (h0 : 0 ≤ a.toInt) (h1 : a.toInt ≤ 999) : 0 ≤ (sSun kind a).toInt ∧ (sSun kind a).toInt ≤ 2003 := by
  have e0 := zt_0
  have e2 := zt_2
  have e5 := zt_5
  have em := zTmul (zTl zt_2) (zTs a) (by omega) (by omega)
  unfold sSun
  by_cases c1 : kind = 1
  · rw [if_pos c1, zTe em]; omega
  · rw [if_neg c1]
    by_cases c2 : kind = 2
    · rw [if_pos c2]; omega
    · rw [if_neg c2]
      by_cases c3 : kind = 3
      · rw [if_pos c3, zTe (zTadd em (zTl zt_5) (by omega) (by omega))]; omega
      · rw [if_neg c3]
        by_cases c4 : kind = 4
        · rw [if_pos c4]; omega
        · rw [if_neg c4]
          by_cases c5 : kind = 5
          · rw [if_pos c5, zdivn _ 2 2 zt_2 (by decide) h0]; omega
          · rw [if_neg c5]; omega
/-- what would be lost, before it is held within the goods -/
def sRw (g : Nat → Int32) (k : Nat) : Int32 := if sShd g (g 7) (g (11 + 4 * k + 1)) = 0 then sSun (g (11 + 4 * k)) (sPl g k) else if g (11 + 4 * k) = 4 then 2 else 0
theorem sRw_b {g : Nat → Int32} {k : Nat} (hg : gB g) (hs : gSb g k) : 0 ≤ (sRw g k).toInt ∧ (sRw g k).toInt ≤ 2003 := by
  have e0 := zt_0
  have e2 := zt_2
  have hp := sPl_b hg hs
  unfold sRw
  by_cases c : sShd g (g 7) (g (11 + 4 * k + 1)) = 0
  · rw [if_pos c]
    exact sSun_b hp.1 hp.2
  · rw [if_neg c]
    by_cases d : g (11 + 4 * k) = 4
    · rw [if_pos d]; omega
    · rw [if_neg d]; omega
theorem sLs_b {g : Nat → Int32} {k : Nat} (hg : gB g) (hs : gSb g k) : 0 ≤ (sLs g k).toInt ∧ (sLs g k).toInt ≤ (g (11 + 4 * k + 2)).toInt := by
  have e0 := zt_0
  have hr := sRw_b hg hs
  obtain ⟨_, _, h3, _⟩ := hs
  show 0 ≤ (if g (11 + 4 * k + 2) = 0 then 0 else sMin (sRw g k) (g (11 + 4 * k + 2))).toInt ∧ (if g (11 + 4 * k + 2) = 0 then 0 else sMin (sRw g k) (g (11 + 4 * k + 2))).toInt ≤ _
  by_cases c : g (11 + 4 * k + 2) = 0
  · rw [if_pos c]; omega
  · rw [if_neg c]
    unfold sMin
    by_cases d : sRw g k < g (11 + 4 * k + 2)
    · rw [if_pos d]; have := zlt d; omega
    · rw [if_neg d]; omega
/-- the loss as the reference holds it -/
theorem sLs_r {g : Nat → Int32} {k : Nat} (hg : gB g) (hs : gSb g k) : sLs g k = if sRw g k ≤ g (11 + 4 * k + 2) then sRw g k else g (11 + 4 * k + 2) := by
  have e0 := zt_0
  have hr := sRw_b hg hs
  obtain ⟨_, _, h3, _⟩ := hs
  show (if g (11 + 4 * k + 2) = 0 then 0 else sMin (sRw g k) (g (11 + 4 * k + 2))) = _
  have ii : ∀ a b : Int32, a.toInt = b.toInt → a = b := fun a b h => Int32.toInt_inj.mp h
  by_cases c : g (11 + 4 * k + 2) = 0
  · rw [if_pos c, c]
    by_cases d : sRw g k ≤ 0
    · rw [if_pos d]; have := zle d; exact ii _ _ (by omega)
    · rw [if_neg d]
  · rw [if_neg c]
    unfold sMin
    by_cases d : sRw g k < g (11 + 4 * k + 2)
    · rw [if_pos d, if_pos (Int32.le_iff_toInt_le.mpr (by have := zlt d; omega))]
    · rw [if_neg d]
      have := znlt d
      by_cases f : sRw g k ≤ g (11 + 4 * k + 2)
      · rw [if_pos f]; have := zle f; exact ii _ _ (by omega)
      · rw [if_neg f]
/-- the reference's way to be in shade -/
theorem sShd_r {g : Nat → Int32} {F pl : Int32} (h2 : 0 ≤ (g 2).toInt) (hw : 1 ≤ (g 8).toInt ∧ (g 8).toInt ≤ 6) (hF : -100 ≤ F.toInt ∧ F.toInt ≤ 100) : ((F + sO g).toInt ≤ pl.toInt ∧ pl.toInt ≤ (((F + sO g) + g 8) - 1).toInt) ↔ sShd g F pl = 1 := by
  have ho := sO_b h2
  have e1 := zt_1
  have ea := zTadd (zTs F) (zTs (sO g)) (by omega) (by omega)
  have eb := zTadd ea (zTs (g 8)) (by omega) (by omega)
  have ec := zTsub eb (zTl zt_1) (by omega) (by omega)
  rw [zTe ea, zTe ec]
  unfold sShd
  by_cases c : pl < F + sO g
  · rw [if_pos c]
    have := zlt c
    rw [zTe ea] at this
    exact ⟨fun h => by omega, fun h => absurd h (by decide)⟩
  · rw [if_neg c]
    have := znlt c
    rw [zTe ea] at this
    by_cases d : (F + sO g) + g 8 ≤ pl
    · rw [if_pos d]
      have := zle d
      rw [zTe eb] at this
      exact ⟨fun h => by omega, fun h => absurd h (by decide)⟩
    · rw [if_neg d]
      have := znle d
      rw [zTe eb] at this
      exact ⟨fun _ => rfl, fun _ => by omega⟩
end
section
/-! texts worked out -/
def sNo (key v c : Int32) : Prop := (key = 0 ∧ ((v = 104 ∧ c = -1) ∨ (v = 103 ∧ c = -2) ∨ (v = 112 ∧ c = -3))) ∨ (key = 1 ∧ ((v = 99 ∧ c = -1) ∨ (v = 116 ∧ c = -2))) ∨ (key = 2 ∧ ((v = 103 ∧ c = -1) ∨ (v = 115 ∧ c = -2)))
def sSg (v : Int32) : Prop := v = 38 ∨ v = 42 ∨ v = 43 ∨ v = 45 ∨ v = 47 ∨ v = 60 ∨ v = 61 ∨ v = 62 ∨ v = 124
/-- a step of the class, c, beside one of the reference, w and v -/
def SR (key c w v : Int32) : Prop := (w = 0 ∧ c = v ∧ 0 ≤ v.toInt) ∨ (w = 1 ∧ sNo key v c) ∨ (w = 2 ∧ v = 33 ∧ c = -1033) ∨ (w = 2 ∧ sSg v ∧ c = -1000 - v)
def TxE (σ : zg_S) (g : Nat → Int32) (t : Nat) : Prop := σ (11 + 3 * t) 0 = g (47 + 200 * t) ∧ σ (11 + 3 * t) 1 = g (47 + 200 * t + 1) ∧ σ (11 + 3 * t) 2 = g (47 + 200 * t + 2) ∧ (g (47 + 200 * t) = 0 ∨ g (47 + 200 * t) = 1 ∨ g (47 + 200 * t) = 2) ∧ ∀ i : Nat, (i : Int) < (g (47 + 200 * t + 2)).toInt → SR (g (47 + 200 * t)) (σ (11 + 3 * t + 1) i) (g (47 + 200 * t + 4 + 2 * i)) (g (47 + 200 * t + 4 + 2 * i + 1))
theorem c_joined (a b c : Int32) (σ : zg_S) : f_X5_joined a b c σ = some (sJn a b c, σ) := by
  unfold f_X5_joined sJn
  by_cases h1 : a = 38
  · rw [if_pos h1, if_pos h1]
    by_cases h : b = 0
    · rw [if_pos h, if_pos h]
    · rw [if_neg h, if_neg h]
      by_cases h' : c = 0
      · rw [if_pos h', if_pos h']
      · rw [if_neg h', if_neg h']
  rw [if_neg h1, if_neg h1]
  by_cases h2 : a = 42
  · rw [if_pos h2, if_pos h2]
  rw [if_neg h2, if_neg h2]
  by_cases h3 : a = 43
  · rw [if_pos h3, if_pos h3]
  rw [if_neg h3, if_neg h3]
  by_cases h4 : a = 45
  · rw [if_pos h4, if_pos h4]
  rw [if_neg h4, if_neg h4]
  by_cases h5 : a = 60
  · rw [if_pos h5, if_pos h5]
    by_cases h : c ≤ b
    · rw [if_pos h, if_pos h]
    · rw [if_neg h, if_neg h]
  rw [if_neg h5, if_neg h5]
  by_cases h6 : a = 61
  · rw [if_pos h6, if_pos h6]
    by_cases h : b = c
    · rw [if_pos h, if_pos h]
    · rw [if_neg h, if_neg h]
  rw [if_neg h6, if_neg h6]
  by_cases h7 : a = 62
  · rw [if_pos h7, if_pos h7]
    by_cases h : b ≤ c
    · rw [if_pos h, if_pos h]
    · rw [if_neg h, if_neg h]
  rw [if_neg h7, if_neg h7]
  by_cases h8 : a = 124
  · rw [if_pos h8, if_pos h8]
    by_cases h : b = 0
    · rw [if_pos h, if_pos h]
      by_cases h' : c = 0
      · rw [if_pos h', if_pos h']
      · rw [if_neg h', if_neg h']
    · rw [if_neg h, if_neg h]
  rw [if_neg h8, if_neg h8]
  by_cases h9 : c = 0
  · rw [if_pos h9, if_pos h9]
  · rw [if_neg h9, if_neg h9, if_neg h9]
theorem zdivm1 (x : Int32) : x / (-1) = -x := by
  refine Int32.toInt_inj.mp ?_
  rw [Int32.toInt_div, show (-1 : Int32).toInt = -1 by decide, Int.tdiv_neg, Int.tdiv_one, Int32.toInt_neg]
theorem r_joined (v x y : Int32) (σ : zg_S) (h : sSg v) : f_X7_joined v x y σ = some (sJn v x y, σ) := by
  rcases h with rfl | rfl | rfl | rfl | rfl | rfl | rfl | rfl | rfl
  · show (if x = 0 then some ((0 : Int32), σ) else (if y = 0 then some (0, σ) else some (1, σ))) = some (if x = 0 then 0 else (if y = 0 then 0 else 1), σ)
    by_cases h : x = 0
    · rw [if_pos h, if_pos h]
    · rw [if_neg h, if_neg h]
      by_cases h' : y = 0
      · rw [if_pos h', if_pos h']
      · rw [if_neg h', if_neg h']
  · rfl
  · rfl
  · rfl
  · show (if y = 0 then some ((0 : Int32), σ) else (if y = (-1) then some (-x, σ) else (if y = 0 then none else some (x / y, σ)))) = some (if y = 0 then 0 else x / y, σ)
    by_cases h : y = 0
    · rw [if_pos h, if_pos h]
    · rw [if_neg h, if_neg h, if_neg h]
      by_cases h' : y = -1
      · rw [if_pos h', h', zdivm1]
      · rw [if_neg h']
  · show (if y ≤ x then some ((0 : Int32), σ) else some (1, σ)) = some (if y ≤ x then 0 else 1, σ)
    by_cases h : y ≤ x
    · rw [if_pos h, if_pos h]
    · rw [if_neg h, if_neg h]
  · show (if x = y then some ((1 : Int32), σ) else some (0, σ)) = some (if x = y then 1 else 0, σ)
    by_cases h : x = y
    · rw [if_pos h, if_pos h]
    · rw [if_neg h, if_neg h]
  · show (if x ≤ y then some ((0 : Int32), σ) else some (1, σ)) = some (if x ≤ y then 0 else 1, σ)
    by_cases h : x ≤ y
    · rw [if_pos h, if_pos h]
    · rw [if_neg h, if_neg h]
  · show (if x = 0 then (if y = 0 then some ((0 : Int32), σ) else some (1, σ)) else some (1, σ)) = some (if x = 0 then (if y = 0 then 0 else 1) else 1, σ)
    by_cases h : x = 0
    · rw [if_pos h, if_pos h]
      by_cases h' : y = 0
      · rw [if_pos h', if_pos h']
      · rw [if_neg h', if_neg h']
    · rw [if_neg h, if_neg h]
/-- a pile's list, its top first -/
def onp (f : Nat → Int32) : List Int32 → Prop
  | [] => True
  | x :: r => f r.length = x ∧ onp f r
theorem onp_up {f : Nat → Int32} {i : Nat} {v : Int32} : ∀ (r : List Int32), r.length ≤ i → onp f r → onp (upd f i v) r := by
  intro r
  induction r with
  | nil => intro _ _; trivial
  | cons x r ih =>
    intro hl h
    have hl' : r.length + 1 ≤ i := hl
    exact ⟨(pk_un (by omega)).trans h.1, ih (by omega) h.2⟩
/-- what a step does to the list: one of three -/
theorem ev1_c {g : Nat → Int32} {b k n : Nat} {key x y z c : Int32} {st : List Int32} (hd : dep g b k (n + 1) st.length = some 1) (hr : SR key c (g (b + 2 * k)) (g (b + 2 * k + 1))) :
    (∃ u, ev1 key x y z (g (b + 2 * k)) (g (b + 2 * k + 1)) st = u :: st ∧ dep g b (k + 1) n (st.length + 1) = some 1 ∧ ((g (b + 2 * k) = 0 ∧ u = g (b + 2 * k + 1) ∧ c = u ∧ 0 ≤ c.toInt) ∨ (g (b + 2 * k) = 1 ∧ sNo key (g (b + 2 * k + 1)) c ∧ u = sNm key (g (b + 2 * k + 1)) x y z))) ∨
    (∃ u r, st = u :: r ∧ ev1 key x y z (g (b + 2 * k)) (g (b + 2 * k + 1)) st = (if u = 0 then 1 else 0) :: r ∧ dep g b (k + 1) n (r.length + 1) = some 1 ∧ g (b + 2 * k) = 2 ∧ g (b + 2 * k + 1) = 33 ∧ c = -1033) ∨
    (∃ v u r, st = v :: u :: r ∧ ev1 key x y z (g (b + 2 * k)) (g (b + 2 * k + 1)) st = sJn (g (b + 2 * k + 1)) u v :: r ∧ dep g b (k + 1) n (r.length + 1) = some 1 ∧ g (b + 2 * k) = 2 ∧ sSg (g (b + 2 * k + 1)) ∧ c = -1000 - g (b + 2 * k + 1)) := by
  rw [dep_s] at hd
  have e2 : ¬ (0 : Int32) = 2 := by decide
  have e1 : ¬ (1 : Int32) = 2 := by decide
  have e10 : ¬ (1 : Int32) = 0 := by decide
  rcases hr with ⟨hw, hc, h0⟩ | ⟨hw, hn⟩ | ⟨hw, hv, hc⟩ | ⟨hw, hv, hc⟩
  · left
    rw [hw, if_neg e2, if_pos (Or.inl rfl)] at hd
    refine ⟨g (b + 2 * k + 1), ?_, hd, Or.inl ⟨hw, rfl, hc, by rw [hc]; exact h0⟩⟩
    unfold ev1
    rw [hw, if_neg e2, if_pos rfl]
  · left
    rw [hw, if_neg e1] at hd
    refine ⟨sNm key (g (b + 2 * k + 1)) x y z, ?_, ?_, Or.inr ⟨hw, hn, rfl⟩⟩
    · unfold ev1
      rw [hw, if_neg e1, if_neg e10]
    · by_cases q : (1 : Int32) = 0 ∨ (0 ≤ (g (b + 2 * k + 1)).toInt ∧ (g (b + 2 * k + 1)).toInt < 128)
      · rw [if_pos q] at hd; exact hd
      · rw [if_neg q] at hd; cases hd
  · right; left
    rw [hw, if_pos rfl, if_pos hv] at hd
    match st, hd with
    | [], hd => exact absurd hd (by intro h; cases h)
    | u :: r, hd =>
      have hl : 1 ≤ (u :: r).length := Nat.succ_le_succ (Nat.zero_le _)
      rw [if_pos hl] at hd
      refine ⟨u, r, rfl, ?_, hd, hw, hv, hc⟩
      unfold ev1
      rw [hw, if_pos rfl, if_pos hv]
  · right; right
    have hv33 : ¬ g (b + 2 * k + 1) = 33 := fun e => by
      rw [e] at hv
      revert hv
      unfold sSg
      decide
    rw [hw, if_pos rfl, if_neg hv33] at hd
    match st, hd with
    | [], hd => exact absurd hd (by intro h; cases h)
    | [u], hd => exact absurd hd (by intro h; cases h)
    | v :: u :: r, hd =>
      have hl : 2 ≤ (v :: u :: r).length := Nat.succ_le_succ (Nat.succ_le_succ (Nat.zero_le _))
      rw [if_pos hl] at hd
      refine ⟨v, u, r, rfl, ?_, hd, hw, hv, hc⟩
      unfold ev1
      rw [hw, if_pos rfl, if_neg hv33]
theorem ev_end {g : Nat → Int32} {b k : Nat} {key x y z : Int32} {st : List Int32} (hd : dep g b k 0 st.length = some 1) : ∃ u, st = [u] ∧ (evs g b key x y z k 0 st).headD 0 = u := by
  have h : some st.length = some 1 := hd
  injection h with h
  match st, h with
  | [u], _ => exact ⟨u, rfl, rfl⟩
theorem SR.sg {v : Int32} (h : sSg v) : (-1000 - v).toInt ≤ -1000 ∧ ¬ (-1000 - v = -1033) ∧ -1000 - (-1000 - v) = v := by
  rcases h with rfl | rfl | rfl | rfl | rfl | rfl | rfl | rfl | rfl <;> decide
theorem c_workOut (t : Nat) (x y z : Int32) (σ : zg_S) (g : Nat → Int32) (hX : TxE σ g t) (hW : wfT g (47 + 200 * t)) (hn : (g (47 + 200 * t + 2)).toInt ≤ 96) : zk (f_X5_workOut (11 + 3 * t) x y z σ) (fun r _ => r = evT g t x y z) := by
  obtain ⟨x0, x1, x2, xk, xs⟩ := hX
  obtain ⟨w1, w2, w3⟩ := hW
  have e1 := zt_1
  have em := zt_m1
  have e0 := zt_0
  have e95 := zt_95
  have e96 := zt_96
  have em2 := zt_m2
  have e1k := zt_m1000
  have nn := ztn w1
  unfold f_X5_workOut L_X5_workOut_6
  refine zl_II (fun (x4 x5 : Int32) (s : zg_S) => ∃ (i m : Nat) (st : List Int32), x5.toInt = i ∧ x4.toInt + 1 = st.length ∧ (i : Int) + m = (g (47 + 200 * t + 2)).toInt ∧ st.length ≤ i ∧ (∀ p, p ≠ 11 + 3 * t + 2 → s p = σ p) ∧ onp (s (11 + 3 * t + 2)) st ∧ (evs g (47 + 200 * t + 4) (g (47 + 200 * t)) x y z i m st).headD 0 = evT g t x y z ∧ dep g (47 + 200 * t + 4) i m st.length = some 1) (fun (_ x5 : Int32) (_ : zg_S) => (97 - x5.toInt).toNat) ?_ zfu _ _ _ ⟨0, (g (47 + 200 * t + 2)).toNatClampNeg, [], e0, by rw [em]; rfl, by omega, Nat.le_refl _, fun _ _ => rfl, trivial, rfl, w3⟩ (by unfold zfu; omega)
  intro rec x4 x5 s hI ih
  obtain ⟨i, m, st, hi, hl, hm, hli, hp, ho, he, hd⟩ := hI
  have hi0 : 0 ≤ x5.toInt := by omega
  have ni := ztn hi0
  have hii : x5.toNatClampNeg = i := by omega
  unfold B_X5_workOut_6
  rw [hp (11 + 3 * t) (by omega), x2, hp (11 + 3 * t + 1) (by omega)]
  refine zk_ite (fun hle => ?_) (fun hlt => ?_)
  · have gl := zle hle
    have hm0 : m = 0 := by omega
    subst hm0
    obtain ⟨u, hu, hu2⟩ := ev_end (key := g (47 + 200 * t)) (x := x) (y := y) (z := z) hd
    subst hu
    have hx4 : x4.toInt = 0 := by have : x4.toInt + 1 = 1 := hl; omega
    have n4 := ztn (i := x4) (by omega)
    refine zk_ite (fun _ => ?_) (fun z => absurd (Int32.le_iff_toInt_le.mpr (by omega)) z)
    refine zk_in (zin_mk (by omega) (by omega)) ?_
    refine zk_some ?_
    rw [show x4.toNatClampNeg = 0 by omega, ← he, hu2]
    exact ho.1
  · have gl := znle hlt
    match m, hm, hd, he with
    | 0, hm, _, _ => exact absurd hm (by omega)
    | m + 1, hm, hd, he =>
      have hin : (i : Int) < (g (47 + 200 * t + 2)).toInt := by omega
      refine zk_in (zin_mk hi0 (by omega)) ?_
      rw [hii]
      have hr := xs i hin
      refine zk_let (fun c ec => ?_)
      rw [← ec] at hr
      have ex := zTe (zTadd (zTs x5) (zTl zt_1) (by omega) (by omega))
      have hx4 : -1 ≤ x4.toInt := by omega
      -- the next round
      have nxt : ∀ (x4' : Int32) (s' : zg_S) (st' : List Int32), x4'.toInt + 1 = st'.length → st'.length ≤ i + 1 → (∀ p, p ≠ 11 + 3 * t + 2 → s' p = σ p) → onp (s' (11 + 3 * t + 2)) st' → ev1 (g (47 + 200 * t)) x y z (g (47 + 200 * t + 4 + 2 * i)) (g (47 + 200 * t + 4 + 2 * i + 1)) st = st' → dep g (47 + 200 * t + 4) (i + 1) m st'.length = some 1 → zk (B_X5_workOut_169 (11 + 3 * t) x y z rec x4' x5 s') (fun r _ => r = evT g t x y z) := fun x4' s' st' h1 h2 h3 h4 h5 h6 => by
        unfold B_X5_workOut_169
        refine ih x4' (x5 + 1) s' ⟨i + 1, m, st', by rw [ex, hi]; rfl, h1, by omega, h2, h3, h4, ?_, h6⟩ (by show (97 - (x5 + 1).toInt).toNat < (97 - x5.toInt).toNat; rw [ex]; omega)
        rw [← he, ← h5]
        rfl
      have up2 : ∀ (j : Nat) (v : Int32) (p : Nat), p ≠ 11 + 3 * t + 2 → zg_up s (11 + 3 * t + 2) j v p = σ p := fun j v p h => (zg_row_ne h).trans (hp p h)
      have upr : ∀ (j : Nat) (v : Int32), zg_up s (11 + 3 * t + 2) j v (11 + 3 * t + 2) = upd (s (11 + 3 * t + 2)) j v := fun j v => zg_row_eq
      rcases ev1_c (x := x) (y := y) (z := z) hd hr with ⟨u, hv, hd', hc⟩ | ⟨u, r, hst, hv, hd', hw, h33, hc⟩ | ⟨v, u, r, hst, hv, hd', hw, hsg, hc⟩
      · -- push
        have ea := zTe (zTadd (zTs x4) (zTl zt_1) (by omega) (by omega))
        have na := ztn (i := x4 + 1) (by rw [ea]; omega)
        have psh : zk (B_X5_workOut_82 (11 + 3 * t) x y z rec (x4 + 1) x5 u (x4 + 1) s) (fun r _ => r = evT g t x y z) := by
          unfold B_X5_workOut_82
          refine zk_in (zin_mk (by rw [ea]; omega) (by rw [ea]; omega)) ?_
          refine zk_let (fun s' q => ?_)
          rw [show (x4 + 1).toNatClampNeg = st.length by omega] at q
          refine nxt (x4 + 1) s' (u :: st) (by rw [ea]; show x4.toInt + 1 + 1 = ((st.length + 1 : Nat) : Int); omega) (by show st.length + 1 ≤ i + 1; omega) (fun p h => by rw [q]; exact up2 _ _ p h) ?_ hv hd'
          rw [q, upr]
          exact ⟨pk_us, onp_up st (Nat.le_refl _) ho⟩
        have x95 : x4 < 95 := Int32.lt_iff_toInt_lt.mpr (by omega)
        rcases hc with ⟨_, hu, hcu, hc0⟩ | ⟨_, hno, hu⟩
        · refine zk_ite (fun hle => absurd (zle hle) (by omega)) (fun _ => ?_)
          refine zk_ite (fun _ => ?_) (fun z => absurd x95 z)
          refine zk_ite (fun z => absurd (zlt z) (by omega)) (fun _ => ?_)
          rw [hcu]
          exact psh
        · have hcs : (c = -1 ∧ sNm (g (47 + 200 * t)) (g (47 + 200 * t + 4 + 2 * i + 1)) x y z = x) ∨ (c = -2 ∧ sNm (g (47 + 200 * t)) (g (47 + 200 * t + 4 + 2 * i + 1)) x y z = y) ∨ (c = -3 ∧ sNm (g (47 + 200 * t)) (g (47 + 200 * t + 4 + 2 * i + 1)) x y z = z) := by
            rcases hno with ⟨hk, h⟩ | ⟨hk, h⟩ | ⟨hk, h⟩
            · rcases h with ⟨h, hc⟩ | ⟨h, hc⟩ | ⟨h, hc⟩
              · exact Or.inl ⟨hc, by rw [hk, h]; rfl⟩
              · exact Or.inr (Or.inl ⟨hc, by rw [hk, h]; rfl⟩)
              · exact Or.inr (Or.inr ⟨hc, by rw [hk, h]; rfl⟩)
            · rcases h with ⟨h, hc⟩ | ⟨h, hc⟩
              · exact Or.inl ⟨hc, by rw [hk, h]; rfl⟩
              · exact Or.inr (Or.inl ⟨hc, by rw [hk, h]; rfl⟩)
            · rcases h with ⟨h, hc⟩ | ⟨h, hc⟩
              · exact Or.inl ⟨hc, by rw [hk, h]; rfl⟩
              · exact Or.inr (Or.inl ⟨hc, by rw [hk, h]; rfl⟩)
          rcases hcs with ⟨hc, hs⟩ | ⟨hc, hs⟩ | ⟨hc, hs⟩
          · rw [hu, hs] at psh
            refine zk_ite (fun hle => absurd hle (by rw [hc]; decide)) (fun _ => ?_)
            refine zk_ite (fun _ => ?_) (fun z => absurd x95 z)
            refine zk_ite (fun _ => ?_) (fun z => absurd (show c < 0 by rw [hc]; decide) z)
            exact zk_ite (fun _ => psh) (fun z => absurd hc z)
          · rw [hu, hs] at psh
            refine zk_ite (fun hle => absurd hle (by rw [hc]; decide)) (fun _ => ?_)
            refine zk_ite (fun _ => ?_) (fun z => absurd x95 z)
            refine zk_ite (fun _ => ?_) (fun z => absurd (show c < 0 by rw [hc]; decide) z)
            refine zk_ite (fun z => absurd (z.symm.trans hc) (by decide)) (fun _ => ?_)
            exact zk_ite (fun _ => psh) (fun z => absurd hc z)
          · rw [hu, hs] at psh
            refine zk_ite (fun hle => absurd hle (by rw [hc]; decide)) (fun _ => ?_)
            refine zk_ite (fun _ => ?_) (fun z => absurd x95 z)
            refine zk_ite (fun _ => ?_) (fun z => absurd (show c < 0 by rw [hc]; decide) z)
            refine zk_ite (fun z => absurd (z.symm.trans hc) (by decide)) (fun _ => ?_)
            exact zk_ite (fun z => absurd (z.symm.trans hc) (by decide)) (fun _ => psh)
      · -- not
        subst hst
        have hlr : x4.toInt = r.length := by have : x4.toInt + 1 = ((r.length + 1 : Nat) : Int) := hl; omega
        have hli' : r.length + 1 ≤ i := hli
        have n4 := ztn (i := x4) (by omega)
        refine zk_ite (fun _ => ?_) (fun z => absurd (show c ≤ -1000 by rw [hc]; decide) z)
        refine zk_ite (fun _ => ?_) (fun z => absurd hc z)
        refine zk_ite (fun _ => ?_) (fun z => absurd (Int32.le_iff_toInt_le.mpr (by omega)) z)
        refine zk_in (zin_mk (by omega) (by omega)) ?_
        have pt : ∀ w : Int32, w = (if u = 0 then 1 else 0) → zk (B_X5_workOut_122 (11 + 3 * t) x y z rec x4 x5 w x4 s) (fun r _ => r = evT g t x y z) := fun w hw' => by
          unfold B_X5_workOut_122
          refine zk_in (zin_mk (by omega) (by omega)) ?_
          refine zk_let (fun s' q => ?_)
          rw [show x4.toNatClampNeg = r.length by omega] at q
          refine nxt x4 s' (w :: r) (by show x4.toInt + 1 = ((r.length + 1 : Nat) : Int); omega) (by show r.length + 1 ≤ i + 1; omega) (fun p h => by rw [q]; exact up2 _ _ p h) ?_ (by rw [hv, hw']) hd'
          rw [q, upr]
          exact ⟨pk_us, onp_up r (Nat.le_refl _) ho.2⟩
        have hu : s (11 + 3 * t + 2) x4.toNatClampNeg = u := by rw [show x4.toNatClampNeg = r.length by omega]; exact ho.1
        rw [hu]
        exact zk_ite (fun h => pt 1 (by rw [if_pos h])) (fun h => pt 0 (by rw [if_neg h]))
      · -- join
        subst hst
        have hlr : x4.toInt = r.length + 1 := by have : x4.toInt + 1 = ((r.length + 1 + 1 : Nat) : Int) := hl; omega
        have hli' : r.length + 1 + 1 ≤ i := hli
        obtain ⟨g1, g2, g3⟩ := SR.sg hsg
        refine zk_ite (fun _ => ?_) (fun z => absurd (Int32.le_iff_toInt_le.mpr (by rw [hc, e1k]; exact g1)) z)
        refine zk_ite (fun z => absurd (hc.symm.trans z) g2) (fun _ => ?_)
        refine zk_ite (fun _ => ?_) (fun z => absurd (Int32.le_iff_toInt_le.mpr (by omega)) z)
        have pa := zTadd (zTs x4) (zTl zt_m1) (by omega) (by omega)
        have pb := zTadd pa (zTl zt_1) (by omega) (by omega)
        have ia : (x4 + (-1)).toNatClampNeg = r.length := zTn pa (by omega)
        have ib : ((x4 + (-1)) + 1).toNatClampNeg = r.length + 1 := zTn pb (by omega)
        refine zk_in (zin_mkT pa (by omega) (by omega)) ?_
        refine zk_in (zin_mkT pb (by omega) (by omega)) ?_
        rw [ia, ib, hc, g3]
        have hu : s (11 + 3 * t + 2) r.length = u := ho.2.1
        have hvv : s (11 + 3 * t + 2) (r.length + 1) = v := ho.1
        rw [hu, hvv, c_joined]
        show zk (zlet (zg_up s (11 + 3 * t + 2) r.length (sJn (g (47 + 200 * t + 4 + 2 * i + 1)) u v)) (fun σ59 => B_X5_workOut_169 (11 + 3 * t) x y z rec (x4 + (-1)) x5 σ59)) _
        refine zk_let (fun s' q => ?_)
        refine nxt (x4 + (-1)) s' (sJn (g (47 + 200 * t + 4 + 2 * i + 1)) u v :: r) (by rw [zTe pa]; show x4.toInt + (-1) + 1 = ((r.length + 1 : Nat) : Int); omega) (by show r.length + 1 ≤ i + 1; omega) (fun p h => by rw [q]; exact up2 _ _ p h) ?_ hv hd'
        rw [q, upr]
        exact ⟨pk_us, onp_up r (Nat.le_refl _) ho.2.2⟩
end
section
/-! the reference's texts worked out, and which of them counts -/
def TV (g : Nat → Int32) (t : Nat) : Prop := ∀ i : Nat, (i : Int) < (g (47 + 200 * t + 2)).toInt → ∃ c, SR (g (47 + 200 * t)) c (g (47 + 200 * t + 4 + 2 * i)) (g (47 + 200 * t + 4 + 2 * i + 1))
theorem TxE.tv {σ : zg_S} {g : Nat → Int32} {t : Nat} (h : TxE σ g t) : TV g t := fun i hi => ⟨_, h.2.2.2.2 i hi⟩
theorem sNo_b {key v c : Int32} (h : sNo key v c) : 0 ≤ v.toInt ∧ v.toInt < 128 := by
  rcases h with ⟨_, h⟩ | ⟨_, h⟩ | ⟨_, h⟩
  · rcases h with ⟨h, _⟩ | ⟨h, _⟩ | ⟨h, _⟩ <;> (rw [h]; decide)
  · rcases h with ⟨h, _⟩ | ⟨h, _⟩ <;> (rw [h]; decide)
  · rcases h with ⟨h, _⟩ | ⟨h, _⟩ <;> (rw [h]; decide)
theorem zk_e {o : Option (Int32 × zg_S)} {k : Int32 → zg_S → Option (Int32 × zg_S)} {r : Int32} {s : zg_S} {P : Int32 → zg_S → Prop} (h : o = some (r, s)) (hk : zk (k r s) P) : zk (zbd o k) P := by
  rw [h]
  exact hk
theorem r_textAt (a : Int32) (τ : zg_S) : f_X7_textAt a τ = some (47 + (200 * a), τ) := rfl
theorem r_worked (a1 : Int32) (t : Nat) (x y z : Int32) (τ : zg_S) (g : Nat → Int32) (h1 : τ 1 = g) (ha : a1.toInt = t) (ht : t ≤ 13) (hV : TV g t) (hW : wfT g (47 + 200 * t)) (hN : ∀ v c, sNo (g (47 + 200 * t)) v c → τ 14 v.toNatClampNeg = sNm (g (47 + 200 * t)) v x y z) : zk (f_X7_worked a1 τ) (fun r _ => r = evT g t x y z) := by
  obtain ⟨w1, w2, w3⟩ := hW
  have e1 := zt_1
  have em := zt_m1
  have e0 := zt_0
  have e2 := zt_2
  have e4 := zt_4
  have e47 := zt_47
  have e200 := zt_200
  have nn := ztn w1
  have pT := zTadd (zTl zt_47) (zTmul (zTl zt_200) (zTs a1) (by omega) (by omega)) (by omega) (by omega)
  unfold f_X7_worked L_X7_worked_4
  refine zl_II (fun (x2 x3 : Int32) (s : zg_S) => ∃ (i m : Nat) (st : List Int32), x3.toInt = i ∧ x2.toInt = st.length ∧ (i : Int) + m = (g (47 + 200 * t + 2)).toInt ∧ st.length ≤ i ∧ (∀ p, p ≠ 15 → s p = τ p) ∧ onp (s 15) st ∧ (evs g (47 + 200 * t + 4) (g (47 + 200 * t)) x y z i m st).headD 0 = evT g t x y z ∧ dep g (47 + 200 * t + 4) i m st.length = some 1) (fun (_ x3 : Int32) (_ : zg_S) => (99 - x3.toInt).toNat) ?_ zfu _ _ _ ⟨0, (g (47 + 200 * t + 2)).toNatClampNeg, [], e0, by rw [e0]; rfl, by omega, Nat.le_refl _, fun _ _ => rfl, trivial, rfl, w3⟩ (by unfold zfu; omega)
  intro rec x2 x3 s hI ih
  obtain ⟨i, m, st, hi, hl, hm, hli, hp, ho, he, hd⟩ := hI
  have hi0 : 0 ≤ x3.toInt := by omega
  have s1 : s 1 = g := (hp 1 (by decide)).trans h1
  have s14 : s 14 = τ 14 := hp 14 (by decide)
  unfold B_X7_worked_4
  refine zk_e (r_textAt _ _) ?_
  have p2 := zTadd pT (zTl zt_2) (by omega) (by omega)
  refine zk_in (zin_mkT p2 (by omega) (by omega)) ?_
  rw [s1, zTn p2 (show (47 + 200 * a1.toInt + 2 : Int) = ((47 + 200 * t + 2 : Nat) : Int) by omega)]
  refine zk_ite (fun hle => ?_) (fun hlt => ?_)
  · have gl := zle hle
    have hm0 : m = 0 := by omega
    subst hm0
    obtain ⟨u, hu, hu2⟩ := ev_end (key := g (47 + 200 * t)) (x := x) (y := y) (z := z) hd
    subst hu
    refine zk_some ?_
    rw [← he, hu2]
    exact ho.1
  · have gl := znle hlt
    match m, hm, hd, he with
    | 0, hm, _, _ => exact absurd hm (by omega)
    | m + 1, hm, hd, he =>
      have hin : (i : Int) < (g (47 + 200 * t + 2)).toInt := by omega
      obtain ⟨c, hr⟩ := hV i hin
      have pa := zTadd (zTadd pT (zTl zt_4) (by omega) (by omega)) (zTmul (zTl zt_2) (zTs x3) (by omega) (by omega)) (by omega) (by omega)
      have pb := zTadd pa (zTl zt_1) (by omega) (by omega)
      have ia := zTn pa (show (47 + 200 * a1.toInt + 4 + 2 * x3.toInt : Int) = ((47 + 200 * t + 4 + 2 * i : Nat) : Int) by omega)
      have ib := zTn pb (show (47 + 200 * a1.toInt + 4 + 2 * x3.toInt + 1 : Int) = ((47 + 200 * t + 4 + 2 * i + 1 : Nat) : Int) by omega)
      refine zk_e (r_textAt _ _) ?_
      refine zk_in (zin_mkT pa (by omega) (by omega)) ?_
      rw [s1, ia]
      refine zk_let (fun w ew => ?_)
      refine zk_e (r_textAt _ _) ?_
      refine zk_in (zin_mkT pb (by omega) (by omega)) ?_
      rw [s1, ib]
      refine zk_let (fun v ev => ?_)
      have ex := zTe (zTadd (zTs x3) (zTl zt_1) (by omega) (by omega))
      have nxt : ∀ (x2' : Int32) (s' : zg_S) (st' : List Int32), x2'.toInt = st'.length → st'.length ≤ i + 1 → (∀ p, p ≠ 15 → s' p = τ p) → onp (s' 15) st' → ev1 (g (47 + 200 * t)) x y z (g (47 + 200 * t + 4 + 2 * i)) (g (47 + 200 * t + 4 + 2 * i + 1)) st = st' → dep g (47 + 200 * t + 4) (i + 1) m st'.length = some 1 → zk (B_X7_worked_157 a1 rec x2' x3 s') (fun r _ => r = evT g t x y z) := fun x2' s' st' h1 h2 h3 h4 h5 h6 => by
        unfold B_X7_worked_157
        refine ih x2' (x3 + 1) s' ⟨i + 1, m, st', by rw [ex, hi]; rfl, h1, by omega, h2, h3, h4, ?_, h6⟩ (by show (99 - (x3 + 1).toInt).toNat < (99 - x3.toInt).toNat; rw [ex]; omega)
        rw [← he, ← h5]
        rfl
      have up2 : ∀ (j : Nat) (v : Int32) (p : Nat), p ≠ 15 → zg_up s 15 j v p = τ p := fun j v p h => (zg_row_ne h).trans (hp p h)
      have upr : ∀ (j : Nat) (v : Int32), zg_up s 15 j v 15 = upd (s 15) j v := fun j v => zg_row_eq
      have n2 := ztn (i := x2) (by omega)
      rcases ev1_c (x := x) (y := y) (z := z) hd hr with ⟨u, hv, hd', hc⟩ | ⟨u, r, hst, hv, hd', hw, h33, hc⟩ | ⟨v', u, r, hst, hv, hd', hw, hsg, hc⟩
      · have psh : zk (B_X7_worked_86 a1 rec x2 x3 u x2 s) (fun r _ => r = evT g t x y z) := by
          have ea := zTe (zTadd (zTs x2) (zTl zt_1) (by omega) (by omega))
          unfold B_X7_worked_86
          refine zk_in (zin_mk (by omega) (by omega)) ?_
          refine zk_let (fun s' q => ?_)
          rw [show x2.toNatClampNeg = st.length by omega] at q
          refine nxt (x2 + 1) s' (u :: st) (by rw [ea]; show x2.toInt + 1 = ((st.length + 1 : Nat) : Int); omega) (by show st.length + 1 ≤ i + 1; omega) (fun p h => by rw [q]; exact up2 _ _ p h) ?_ hv hd'
          rw [q, upr]
          exact ⟨pk_us, onp_up st (Nat.le_refl _) ho⟩
        rcases hc with ⟨hw, hu, _, _⟩ | ⟨hw, hno, hu⟩
        · refine zk_ite (fun q => absurd (q.symm.trans (ew.trans hw)) (by decide)) (fun _ => ?_)
          refine zk_ite (fun _ => ?_) (fun q => absurd (ew.trans hw) q)
          rw [ev, ← hu]
          exact psh
        · refine zk_ite (fun q => absurd (q.symm.trans (ew.trans hw)) (by decide)) (fun _ => ?_)
          refine zk_ite (fun q => absurd (q.symm.trans (ew.trans hw)) (by decide)) (fun _ => ?_)
          have hb := sNo_b hno
          rw [← ev] at hb
          refine zk_in (zin_mk hb.1 (by omega)) ?_
          rw [s14, ev, hN _ _ hno, ← hu]
          exact psh
      · subst hst
        have hlr : x2.toInt = r.length + 1 := by have : x2.toInt = ((r.length + 1 : Nat) : Int) := hl; omega
        have hli' : r.length + 1 ≤ i := hli
        refine zk_ite (fun _ => ?_) (fun q => absurd (ew.trans hw) q)
        refine zk_ite (fun _ => ?_) (fun q => absurd (ev.trans h33) q)
        have pm := zTsub (zTs x2) (zTl zt_1) (by omega) (by omega)
        have im : (x2 - 1).toNatClampNeg = r.length := zTn pm (by omega)
        refine zk_in (zin_mkT pm (by omega) (by omega)) ?_
        rw [im]
        have pt : ∀ w : Int32, w = (if u = 0 then 1 else 0) → zk (B_X7_worked_123 a1 rec x2 x3 w (x2 - 1) s) (fun r _ => r = evT g t x y z) := fun w hw' => by
          unfold B_X7_worked_123
          refine zk_in (zin_mkT pm (by omega) (by omega)) ?_
          rw [im]
          refine zk_let (fun s' q => ?_)
          refine nxt x2 s' (w :: r) (by show x2.toInt = ((r.length + 1 : Nat) : Int); omega) (by show r.length + 1 ≤ i + 1; omega) (fun p h => by rw [q]; exact up2 _ _ p h) ?_ (by rw [hv, hw']) hd'
          rw [q, upr]
          exact ⟨pk_us, onp_up r (Nat.le_refl _) ho.2⟩
        rw [show s 15 r.length = u from ho.1]
        exact zk_ite (fun h => pt 1 (by rw [if_pos h])) (fun h => pt 0 (by rw [if_neg h]))
      · subst hst
        have hlr : x2.toInt = r.length + 2 := by have : x2.toInt = ((r.length + 1 + 1 : Nat) : Int) := hl; omega
        have hli' : r.length + 1 + 1 ≤ i := hli
        have h33 : ¬ v = 33 := fun e => by
          rw [← ev, e] at hsg
          revert hsg
          unfold sSg
          decide
        refine zk_ite (fun _ => ?_) (fun q => absurd (ew.trans hw) q)
        refine zk_ite (fun q => absurd q h33) (fun _ => ?_)
        have pc := zTadd (zTs x2) (zTl zt_m1) (by omega) (by omega)
        have pd := zTsub pc (zTl zt_1) (by omega) (by omega)
        have ic : (x2 + (-1)).toNatClampNeg = r.length + 1 := zTn pc (by omega)
        have id' : ((x2 + (-1)) - 1).toNatClampNeg = r.length := zTn pd (by omega)
        refine zk_in (zin_mkT pd (by omega) (by omega)) ?_
        refine zk_in (zin_mkT pc (by omega) (by omega)) ?_
        rw [ic, id', show s 15 r.length = u from ho.2.1, show s 15 (r.length + 1) = v' from ho.1, ev, r_joined _ _ _ _ hsg]
        show zk (zlet (zg_up s 15 r.length (sJn (g (47 + 200 * t + 4 + 2 * i + 1)) u v')) (fun σ85 => B_X7_worked_157 a1 rec (x2 + (-1)) x3 σ85)) _
        refine zk_let (fun s' q => ?_)
        refine nxt (x2 + (-1)) s' (sJn (g (47 + 200 * t + 4 + 2 * i + 1)) u v' :: r) (by rw [zTe pc]; show x2.toInt + (-1) = ((r.length + 1 : Nat) : Int); omega) (by show r.length + 1 ≤ i + 1; omega) (fun p h => by rw [q]; exact up2 _ _ p h) ?_ hv hd'
        rw [q, upr]
        exact ⟨pk_us, onp_up r (Nat.le_refl _) ho.2.2⟩
theorem ofN {n : Nat} (h : n < 2147483648) : (Int32.ofNat n).toInt = n := Int32.toInt_ofNat_of_lt h
theorem sCn_b (g : Nat → Int32) (key : Int32) : ∀ n : Nat, n ≤ 14 → -1 ≤ (sCn g key n).toInt ∧ (sCn g key n).toInt < n ∧ (0 ≤ (sCn g key n).toInt → g (47 + 200 * (sCn g key n).toNatClampNeg) = key) := by
  intro n
  induction n with
  | zero => intro _; exact ⟨by show -1 ≤ (-1 : Int32).toInt; decide, by show (-1 : Int32).toInt < _; decide, fun h => absurd h (by show ¬ 0 ≤ (-1 : Int32).toInt; decide)⟩
  | succ n ih =>
    intro hn
    have h := ih (by omega)
    show -1 ≤ (if g (47 + 200 * n) = key then Int32.ofNat n else sCn g key n).toInt ∧ (if g (47 + 200 * n) = key then Int32.ofNat n else sCn g key n).toInt < ((n + 1 : Nat) : Int) ∧ (0 ≤ (if g (47 + 200 * n) = key then Int32.ofNat n else sCn g key n).toInt → g (47 + 200 * (if g (47 + 200 * n) = key then Int32.ofNat n else sCn g key n).toNatClampNeg) = key)
    by_cases c : g (47 + 200 * n) = key
    · rw [if_pos c]
      have e := ofN (n := n) (by omega)
      have e2 := ztn (i := Int32.ofNat n) (by omega)
      refine ⟨by omega, by omega, fun _ => ?_⟩
      rw [show (Int32.ofNat n).toNatClampNeg = n by omega]
      exact c
    · rw [if_neg c]
      exact ⟨h.1, by omega, h.2.2⟩
theorem r_counts (key : Int32) (τ : zg_S) (g : Nat → Int32) (h1 : τ 1 = g) (hn : 0 ≤ (g 1).toInt ∧ (g 1).toInt ≤ 14) : zk (f_X7_counts key τ) (fun r s => τ = s ∧ r = sCt g key) := by
  have e0 := zt_0
  have e1 := zt_1
  have e47 := zt_47
  have e200 := zt_200
  have nn := ztn hn.1
  unfold f_X7_counts L_X7_counts_4
  refine zl_II (fun (x2 x3 : Int32) (s : zg_S) => τ = s ∧ ∃ i : Nat, x3.toInt = i ∧ (i : Int) ≤ (g 1).toInt ∧ x2 = sCn g key i) (fun (_ x3 : Int32) (_ : zg_S) => (14 - x3.toInt).toNat) ?_ zfu _ _ _ ⟨rfl, 0, e0, by omega, rfl⟩ (by unfold zfu; omega)
  intro rec x2 x3 s hI ih
  obtain ⟨rfl, i, hi, hi2, hx⟩ := hI
  unfold B_X7_counts_4
  rw [h1]
  refine zk_ite (fun hle => ?_) (fun hlt => ?_)
  · have gl := zle hle
    refine zk_some ⟨rfl, ?_⟩
    rw [hx]
    unfold sCt
    rw [show i = (g 1).toNatClampNeg by omega]
  · have gl := znle hlt
    have pT := zTadd (zTl zt_47) (zTmul (zTl zt_200) (zTs x3) (by omega) (by omega)) (by omega) (by omega)
    refine zk_e (r_textAt _ _) ?_
    refine zk_in (zin_mkT pT (by omega) (by omega)) ?_
    rw [h1, zTn pT (show (47 + 200 * x3.toInt : Int) = ((47 + 200 * i : Nat) : Int) by omega)]
    have ex := zTe (zTadd (zTs x3) (zTl zt_1) (by omega) (by omega))
    have ee : ∀ y : Int32, y = sCn g key (i + 1) → zk (B_X7_counts_33 key rec x3 y τ) (fun r s => τ = s ∧ r = sCt g key) := fun y hy => by
      unfold B_X7_counts_33
      exact ih y (x3 + 1) τ ⟨rfl, i + 1, by rw [ex, hi]; rfl, by omega, hy⟩ (by show (14 - (x3 + 1).toInt).toNat < (14 - x3.toInt).toNat; rw [ex]; omega)
    refine zk_ite (fun h => ee _ ?_) (fun h => ee _ ?_)
    · show x3 = if g (47 + 200 * i) = key then Int32.ofNat i else sCn g key i
      rw [if_pos h]
      exact Int32.toInt_inj.mp (by rw [ofN (by omega)]; exact hi)
    · show x2 = if g (47 + 200 * i) = key then Int32.ofNat i else sCn g key i
      rw [if_neg h]
      exact hx
end
section
theorem zk_w {o : Option (Int32 × zg_S)} {W : Nat → Nat → Prop} {σ : zg_S} {P : Int32 → zg_S → Prop} (h : zk o P) (hw : zw W σ o) : zk o (fun r s => P r s ∧ wr W σ s) := by
  obtain ⟨r, s, e, hp⟩ := h
  exact ⟨r, s, e, hp, hw r s e⟩
/-- the stacks of the texts -/
def WS (p k : Nat) : Prop := (13 ≤ p ∧ p ≤ 52 ∧ p % 3 = 1)
/-- where the class holds what g holds at i -/
def fm (i : Nat) : Nat := [3, 4, 7, 10, 11, 12, 13, 6, 5, 8, 9].getD i 0
theorem fm_inj : ∀ i, i < 11 → ∀ j, j < 11 → fm i = fm j → i = j := by decide
def EQB (σ : zg_S) (p : Nat) (g : Nat → Int32) : Prop := (∀ i, i < 11 → σ p (fm i) = g i) ∧ ∀ k j : Nat, (k : Int) < (g 0).toInt → j < 4 → σ (p + 1 + 2 + k) j = g (11 + 4 * k + j)
def cC (g : Nat → Int32) (key : Int32) : Int32 := if 0 ≤ sCt g key then sCt g key else -1000000005
def TXR (σ : zg_S) (p : Nat) (g : Nat → Int32) : Prop := (σ (p + 2) 0 = cC g 0 ∧ σ (p + 2) 1 = cC g 1 ∧ σ (p + 2) 2 = cC g 2) ∧ ∀ t : Nat, (t : Int) < (g 1).toInt → TxE σ g t
/-- bounds, stalls, texts of g -/
def gOK (g : Nat → Int32) : Prop := gB g ∧ gSs g ∧ (0 ≤ (g 1).toInt ∧ (g 1).toInt ≤ 14) ∧ WF g ∧ ∀ t : Nat, (t : Int) < (g 1).toInt → (g (47 + 200 * t + 2)).toInt ≤ 96
/-- the same texts -/
def STx (g h : Nat → Int32) : Prop := h 1 = g 1 ∧ ∀ i, 47 ≤ i → h i = g i
theorem STx.rf {g : Nat → Int32} : STx g g := ⟨rfl, fun _ _ => rfl⟩
theorem STx.tr {a b c : Nat → Int32} (h1 : STx a b) (h2 : STx b c) : STx a c := ⟨h2.1.trans h1.1, fun i hi => (h2.2 i hi).trans (h1.2 i hi)⟩
theorem STx.up {g h : Nat → Int32} {i : Nat} {v : Int32} (s : STx g h) (h1 : i ≠ 1) (h2 : i < 47) : STx g (upd h i v) := ⟨(pk_un (by omega)).trans s.1, fun j hj => (pk_un (by omega)).trans (s.2 j hj)⟩
theorem sCn_st {g h : Nat → Int32} (s : STx g h) (key : Int32) : ∀ n, sCn h key n = sCn g key n := by
  intro n
  induction n with
  | zero => rfl
  | succ n ih =>
    show (if h (47 + 200 * n) = key then Int32.ofNat n else sCn h key n) = if g (47 + 200 * n) = key then Int32.ofNat n else sCn g key n
    rw [s.2 _ (by omega), ih]
theorem sCt_st {g h : Nat → Int32} (s : STx g h) (key : Int32) : sCt h key = sCt g key := by
  unfold sCt
  rw [s.1]
  exact sCn_st s key _
theorem cC_st {g h : Nat → Int32} (s : STx g h) (key : Int32) : cC h key = cC g key := by
  unfold cC
  rw [sCt_st s]
theorem TxE.st {σ : zg_S} {g h : Nat → Int32} {t : Nat} (s : STx g h) (x : TxE σ g t) : TxE σ h t := by
  obtain ⟨a, b, c, d, e⟩ := x
  have k : ∀ j, h (47 + 200 * t + j) = g (47 + 200 * t + j) := fun j => s.2 _ (by omega)
  have k0 := k 0
  refine ⟨a.trans k0.symm, b.trans (k 1).symm, c.trans (k 2).symm, by rw [show h (47 + 200 * t) = g (47 + 200 * t) from k0]; exact d, fun i hi => ?_⟩
  rw [k 2] at hi
  rw [show h (47 + 200 * t) = g (47 + 200 * t) from k0, s.2 (47 + 200 * t + 4 + 2 * i) (by omega), s.2 (47 + 200 * t + 4 + 2 * i + 1) (by omega)]
  exact e i hi
theorem TxE.wr {σ s : zg_S} {g : Nat → Int32} {t : Nat} (x : TxE σ g t) (h : ∀ k, s (11 + 3 * t) k = σ (11 + 3 * t) k) (h2 : ∀ k, s (11 + 3 * t + 1) k = σ (11 + 3 * t + 1) k) : TxE s g t := by
  obtain ⟨a, b, c, d, e⟩ := x
  exact ⟨(h 0).trans a, (h 1).trans b, (h 2).trans c, d, fun i hi => by rw [h2]; exact e i hi⟩
theorem TXR.st {σ : zg_S} {p : Nat} {g h : Nat → Int32} (s : STx g h) (x : TXR σ p g) : TXR σ p h := by
  obtain ⟨⟨a, b, c⟩, d⟩ := x
  refine ⟨⟨by rw [cC_st s]; exact a, by rw [cC_st s]; exact b, by rw [cC_st s]; exact c⟩, fun t ht => ?_⟩
  rw [s.1] at ht
  exact (d t ht).st s
/-- a state in which the texts, and the counting row, are as before -/
theorem TXR.wr {σ s : zg_S} {p : Nat} {g : Nat → Int32} (x : TXR σ p g) (n : (g 1).toInt ≤ 14) (hc : ∀ k, s (p + 2) k = σ (p + 2) k) (ht : ∀ q k, 11 ≤ q → q ≤ 52 → q % 3 ≠ 1 → s q k = σ q k) : TXR s p g := by
  obtain ⟨⟨a, b, c⟩, d⟩ := x
  refine ⟨⟨(hc 0).trans a, (hc 1).trans b, (hc 2).trans c⟩, fun t h => (d t h).wr (fun k => ht _ k (by omega) (by omega) (by omega)) (fun k => ht _ k (by omega) (by omega) (by omega))⟩
theorem EQB.f {σ : zg_S} {p : Nat} {g : Nat → Int32} (h : EQB σ p g) (i : Nat) (hi : i < 11) : σ p (fm i) = g i := h.1 i hi
theorem EQB.wr {σ s : zg_S} {p : Nat} {g : Nat → Int32} (h : EQB σ p g) (hN : (g 0).toInt ≤ 9) (h1 : ∀ q k, p ≤ q → q ≤ p + 11 → s q k = σ q k) : EQB s p g := ⟨fun i hi => (h1 p _ (by omega) (by omega)).trans (h.1 i hi), fun k j hk hj => (h1 _ _ (by omega) (by omega)).trans (h.2 k j hk hj)⟩
theorem EQB.up {σ : zg_S} {p f : Nat} {g : Nat → Int32} {v : Int32} (h : EQB σ p g) (i : Nat) (hi : i < 11) (hi0 : i ≠ 0) (hf : fm i = f) : EQB (zg_up σ p f v) p (upd g i v) := by
  subst hf
  refine ⟨fun j hj => ?_, fun k j hk hj => ?_⟩
  · by_cases e : j = i
    · subst e
      rw [pk_us]
      exact zgot
    · rw [pk_un e]
      exact (zkeepn (fun z => e (fm_inj j hj i hi z))).trans (h.1 j hj)
  · rw [pk_un (by omega)] at hk
    rw [pk_un (by omega)]
    exact (congrFun (zg_row_ne (by omega)) j).trans (h.2 k j hk hj)
theorem EQB.upS {σ : zg_S} {p : Nat} {g : Nat → Int32} {v : Int32} (h : EQB σ p g) (k0 j0 : Nat) (hj0 : j0 < 4) : EQB (zg_up σ (p + 1 + 2 + k0) j0 v) p (upd g (11 + 4 * k0 + j0) v) := by
  refine ⟨fun j hj => ?_, fun k j hk hj => ?_⟩
  · rw [pk_un (by omega)]
    exact (congrFun (zg_row_ne (by omega)) _).trans (h.1 j hj)
  · rw [pk_un (by omega)] at hk
    by_cases e : k = k0
    · subst e
      by_cases e2 : j = j0
      · subst e2
        rw [pk_us]
        exact zgot
      · rw [pk_un (by omega)]
        exact (zkeepn e2).trans (h.2 k j hk hj)
    · rw [pk_un (by omega)]
      exact (congrFun (zg_row_ne (by omega)) j).trans (h.2 k j hk hj)
/-! how gOK is kept -/
theorem gSb_eq {g h : Nat → Int32} {k : Nat} (e : ∀ j, j < 4 → h (11 + 4 * k + j) = g (11 + 4 * k + j)) (b : gSb g k) : gSb h k := by
  have e0 := e 0 (by decide)
  have e1 := e 1 (by decide)
  have e2 := e 2 (by decide)
  have e3 := e 3 (by decide)
  unfold gSb
  rw [show h (11 + 4 * k) = g (11 + 4 * k) from e0, e1, e2, e3]
  exact b
theorem gOK.tx {g h : Nat → Int32} (o : gOK g) (s : STx g h) (hB : gB h) (hS : gSs h) : gOK h := by
  obtain ⟨_, _, c, d, e⟩ := o
  refine ⟨hB, hS, by rw [s.1]; exact c, WF_eq s.1 s.2 d, fun t ht => ?_⟩
  rw [s.1] at ht
  rw [s.2 _ (by omega)]
  exact e t ht
theorem gB_eq {g h : Nat → Int32} (b : gB g) (e : ∀ i, i < 11 → i ≠ 3 → i ≠ 4 → i ≠ 5 → i ≠ 6 → h i = g i) : gB h := by
  unfold gB
  rw [e 0 (by decide) (by decide) (by decide) (by decide) (by decide), e 2 (by decide) (by decide) (by decide) (by decide) (by decide), e 8 (by decide) (by decide) (by decide) (by decide) (by decide), e 7 (by decide) (by decide) (by decide) (by decide) (by decide), e 9 (by decide) (by decide) (by decide) (by decide) (by decide), e 10 (by decide) (by decide) (by decide) (by decide) (by decide)]
  exact b
theorem gOK.lo {g : Nat → Int32} {i : Nat} {v : Int32} (o : gOK g) (hi : i = 3 ∨ i = 4 ∨ i = 5 ∨ i = 6) : gOK (upd g i v) := by
  refine o.tx (STx.rf.up (by omega) (by omega)) (gB_eq o.1 (fun j _ h3 h4 h5 h6 => pk_un (by omega))) (fun k hk => ?_)
  rw [pk_un (by omega)] at hk
  exact gSb_eq (fun j _ => pk_un (by omega)) (o.2.1 k hk)
theorem gOK.go {g : Nat → Int32} {k : Nat} {v : Int32} (o : gOK g) (hv : 0 ≤ v.toInt ∧ v.toInt ≤ 999) (hk : k < 9) : gOK (upd g (11 + 4 * k + 2) v) := by
  refine o.tx (STx.rf.up (by omega) (by omega)) (gB_eq o.1 (fun j hj _ _ _ _ => pk_un (by omega))) (fun i hi => ?_)
  rw [pk_un (by omega)] at hi
  have b := o.2.1 i hi
  by_cases e : i = k
  · subst e
    unfold gSb
    rw [pk_un (by omega), pk_un (by omega), pk_us, pk_un (by omega)]
    exact ⟨b.1, b.2.1, hv, b.2.2.2⟩
  · exact gSb_eq (fun j hj => pk_un (by omega)) b
theorem gOK.first {g : Nat → Int32} {v : Int32} (o : gOK g) (hv : 0 ≤ v.toInt ∧ v.toInt ≤ 12 - (g 8).toInt) : gOK (upd g 7 v) := by
  refine o.tx (STx.rf.up (by omega) (by omega)) ?_ (fun i hi => ?_)
  · obtain ⟨a, b, c, d, e, f⟩ := o.1
    unfold gB
    rw [pk_un (by decide), pk_un (by decide), pk_un (by decide), pk_us, pk_un (by decide), pk_un (by decide)]
    exact ⟨a, b, c, hv, e, f⟩
  · rw [pk_un (by omega)] at hi
    exact gSb_eq (fun j hj => pk_un (by omega)) (o.2.1 i hi)
theorem gOK.hour {g : Nat → Int32} {v : Int32} (o : gOK g) (hv : 0 ≤ v.toInt ∧ v.toInt ≤ 20000) : gOK (upd g 2 v) := by
  refine o.tx (STx.rf.up (by omega) (by omega)) ?_ (fun i hi => ?_)
  · obtain ⟨a, b, c, d, e, f⟩ := o.1
    unfold gB
    rw [pk_un (by decide), pk_us, pk_un (by decide), pk_un (by decide), pk_un (by decide), pk_un (by decide)]
    exact ⟨a, hv, c, d, e, f⟩
  · rw [pk_un (by omega)] at hi
    exact gSb_eq (fun j hj => pk_un (by omega)) (o.2.1 i hi)
theorem sO_c {g h : Nat → Int32} (e : h 2 = g 2) : sO h = sO g := by
  unfold sO sT
  rw [e]
theorem sShd_c {g h : Nat → Int32} {F pl : Int32} (e2 : h 2 = g 2) (e8 : h 8 = g 8) : sShd h F pl = sShd g F pl := by
  unfold sShd
  rw [sO_c e2, e8]
/-! what the hour does to g, cell by cell -/
theorem sSt_ok {g : Nat → Int32} {k : Nat} (o : gOK g) (hk : (k : Int) < (g 0).toInt) : gOK (sSt g k) := by
  obtain ⟨hN, _⟩ := o.1
  have hb := o.2.1 k hk
  have hl := sLs_b o.1 hb
  obtain ⟨_, _, h3, _⟩ := hb
  have es := zTe (zTsub (zTs (g (11 + 4 * k + 2))) (zTs (sLs g k)) (by omega) (by omega))
  unfold sSt
  exact ((o.lo (Or.inr (Or.inl rfl))).go ⟨by rw [es]; omega, by rw [es]; omega⟩ (by omega)).lo (Or.inl rfl)
theorem sSt_c {g : Nat → Int32} {k i : Nat} (h3 : i ≠ 3) (h4 : i ≠ 4) (h : i ≠ 11 + 4 * k + 2) : sSt g k i = g i := by
  unfold sSt
  rw [pk_un h3, pk_un h, pk_un h4]
theorem sLp_c {g : Nat → Int32} {i : Nat} (h3 : i ≠ 3) (h4 : i ≠ 4) (h : i < 11 ∨ 47 ≤ i ∨ i % 4 ≠ 1) : ∀ k, k ≤ 9 → sLp g k i = g i := by
  intro k
  induction k with
  | zero => intro _; rfl
  | succ k ih =>
    intro hk
    show sSt (sLp g k) k i = g i
    rw [sSt_c h3 h4 (by omega)]
    exact ih (by omega)
theorem sLp_ok {g : Nat → Int32} (o : gOK g) : ∀ k : Nat, (k : Int) ≤ (g 0).toInt → gOK (sLp g k) := by
  obtain ⟨hN, _⟩ := o.1
  intro k
  induction k with
  | zero => intro _; exact o
  | succ k ih =>
    intro hk
    refine sSt_ok (ih (by omega)) ?_
    rw [sLp_c (by decide) (by decide) (by decide) k (by omega)]
    omega
end
section
/-! the class's bazaar at p, as g tells it -/
theorem c_within1 {a b c : Int32} (σ : zg_S) (h : b.toInt ≤ a.toInt ∧ a.toInt ≤ c.toInt) : f_X6_within a b c σ = some (1, σ) := by
  unfold f_X6_within
  rw [if_neg (fun z => by have := zlt z; omega), if_neg (fun z => by have := zlt z; omega)]
theorem c_within0 {a b c : Int32} (σ : zg_S) (h : ¬ (b.toInt ≤ a.toInt ∧ a.toInt ≤ c.toInt)) : f_X6_within a b c σ = some (0, σ) := by
  unfold f_X6_within
  by_cases d : a < b
  · rw [if_pos d]
  · rw [if_neg d]
    have := znlt d
    rw [if_pos (Int32.lt_iff_toInt_lt.mpr (by omega))]
theorem c_held (a lo hi : Int32) (σ : zg_S) : f_X6_held a lo hi σ = some (sHeld a lo hi, σ) := rfl
section
variable {σ : zg_S} {p : Nat} {g : Nat → Int32}
theorem c_slant (h : EQB σ p g) : f_X0_slant p σ = some (sO g, σ) := by
  unfold f_X0_slant
  rw [show σ p 7 = g 2 from h.f 2 (by decide)]
  rfl
theorem c_wouldShade (h : EQB σ p g) (F pl : Int32) : f_X0_wouldShade p F pl σ = some (sShd g F pl, σ) := by
  unfold f_X0_wouldShade
  rw [c_slant h]
  show (if pl < (F + sO g) then some ((0 : Int32), σ) else (if ((F + sO g) + (σ p 5)) ≤ pl then some (0, σ) else some (1, σ))) = _
  rw [show σ p 5 = g 8 from h.f 8 (by decide)]
  unfold sShd
  by_cases c : pl < F + sO g
  · rw [if_pos c, if_pos c]
  · rw [if_neg c, if_neg c]
    by_cases d : (F + sO g) + g 8 ≤ pl
    · rw [if_pos d, if_pos d]
    · rw [if_neg d, if_neg d]
theorem c_shades (h : EQB σ p g) (pl : Int32) : f_X0_shades p pl σ = some (sShd g (g 7) pl, σ) := by
  unfold f_X0_shades
  rw [show σ p 6 = g 7 from h.f 7 (by decide), c_wouldShade h]
  show (if sShd g (g 7) pl = 0 ∨ sShd g (g 7) pl = 1 then some (sShd g (g 7) pl, σ) else none) = _
  rw [if_pos (sShd_01 _ _ _)]
theorem c_heat (h : EQB σ p g) : f_X0_heat p σ = some (sHeat g, σ) := by
  unfold f_X0_heat
  rw [show σ p 7 = g 2 from h.f 2 (by decide)]
  rfl
theorem c_lastFirst (h : EQB σ p g) : f_X0_lastFirst p σ = some (12 - g 8, σ) := by
  unfold f_X0_lastFirst
  rw [show σ p 5 = g 8 from h.f 8 (by decide)]
theorem c_hauledTo (h : EQB σ p g) (mv : Int32) : f_X0_hauledTo p mv σ = some (sTo g mv, σ) := by
  unfold f_X0_hauledTo
  rw [show σ p 6 = g 7 from h.f 7 (by decide), c_lastFirst h]
  unfold sTo
  by_cases c : mv = 1
  · rw [if_pos c, if_pos c]
    rfl
  · rw [if_neg c, if_neg c]
    by_cases d : mv = 2
    · rw [if_pos d, if_pos d]
      rfl
    · rw [if_neg d, if_neg d]
theorem c_sunLoss (q : Nat) (a : Int32) : f_X4_sunLoss q a σ = some (sSun (σ q 0) a, σ) := by
  unfold f_X4_sunLoss sSun
  by_cases h1 : σ q 0 = 1
  · rw [if_pos h1, if_pos h1]
  rw [if_neg h1, if_neg h1]
  by_cases h2 : σ q 0 = 2
  · rw [if_pos h2, if_pos h2]
  rw [if_neg h2, if_neg h2]
  by_cases h3 : σ q 0 = 3
  · rw [if_pos h3, if_pos h3]
  rw [if_neg h3, if_neg h3]
  by_cases h4 : σ q 0 = 4
  · rw [if_pos h4, if_pos h4]
  rw [if_neg h4, if_neg h4]
  by_cases h5 : σ q 0 = 5
  · rw [if_pos h5, if_pos h5]
  rw [if_neg h5, if_neg h5]
theorem c_plainLoss (h : EQB σ p g) (hT : TXR σ p g) (o : gOK g) (q k : Nat) (hq : 53 ≤ q) (q2 : σ q 2 = g (11 + 4 * k + 2)) (q3 : σ q 3 = g (11 + 4 * k + 3)) : zk (f_X0_plainLoss p q σ) (fun r s => r = sPl g k ∧ wr WS σ s) := by
  obtain ⟨hB, hS, hn, hW, h96⟩ := o
  have e0 := zt_0
  have e13 := zt_13
  have nn := ztn hn.1
  unfold f_X0_plainLoss sPl
  rw [hT.1.1]
  have hb := sCn_b g 0 (g 1).toNatClampNeg (by omega)
  by_cases c : 0 ≤ sCt g 0
  · have ec : cC g 0 = sCt g 0 := by unfold cC; rw [if_pos c]
    have c0 := zle c
    have ht : (sCt g 0).toInt < (g 1).toInt := by have := hb.2.1; show (sCn g 0 (g 1).toNatClampNeg).toInt < _; omega
    have nt := ztn (i := sCt g 0) (by omega)
    rw [ec, if_pos c]
    refine zk_e (c_within1 σ ⟨by omega, by omega⟩) ?_
    refine zk_ite (fun z => absurd z (by decide)) (fun _ => ?_)
    refine zk_in (zin_mk (by omega) (by omega)) ?_
    refine zk_e (c_heat h) ?_
    have htt : ((sCt g 0).toNatClampNeg : Int) < (g 1).toInt := by omega
    rw [q2, q3]
    refine zk_call (zk_w (c_workOut (sCt g 0).toNatClampNeg (sHeat g) (g (11 + 4 * k + 2)) (g (11 + 4 * k + 3)) σ g (hT.2 _ htt) (hW _ htt) (h96 _ htt)) (w_X5_workOut _ _ _ _ σ)) (fun r s hp => ?_)
    obtain ⟨hr, hw⟩ := hp
    have s2 : s q 2 = g (11 + 4 * k + 2) := (hw q 2 (by unfold W_X5_workOut; omega)).trans q2
    rw [s2]
    refine zk_e (c_held _ _ _ _) ?_
    refine zk_some ⟨by rw [hr], wr.tr wr.rf hw (fun p' k' hz => ?_)⟩
    unfold W_X5_workOut at hz
    unfold WS
    omega
  · have ec : cC g 0 = -1000000005 := by unfold cC; rw [if_neg c]
    rw [ec, if_neg c]
    refine zk_e (c_within0 σ (by decide)) ?_
    refine zk_ite (fun _ => ?_) (fun z => absurd rfl z)
    refine zk_e (c_heat h) ?_
    exact zk_some ⟨rfl, wr.rf⟩
theorem eqb_ws {s : zg_S} (h : EQB σ p g) (hp : 53 ≤ p) (hN : (g 0).toInt ≤ 9) (hw : wr WS σ s) : EQB s p g := h.wr hN (fun q k _ _ => hw q k (by unfold WS; omega))
theorem txr_ws {s : zg_S} (h : TXR σ p g) (hp : 53 ≤ p) (hn : (g 1).toInt ≤ 14) (hw : wr WS σ s) : TXR s p g := h.wr hn (fun k => hw _ k (by unfold WS; omega)) (fun q k _ _ _ => hw q k (by unfold WS; omega))
theorem c_lossOf (h : EQB σ p g) (hT : TXR σ p g) (o : gOK g) (hp : 53 ≤ p) (k : Nat) (hk : (k : Int) < (g 0).toInt) : zk (f_X0_lossOf p (p + 1 + 2 + k) σ) (fun r s => r = sLs g k ∧ wr WS σ s) := by
  have q0 : σ (p + 1 + 2 + k) 0 = g (11 + 4 * k) := h.2 k 0 hk (by decide)
  have q1 := h.2 k 1 hk (by decide)
  have q2 := h.2 k 2 hk (by decide)
  have q3 := h.2 k 3 hk (by decide)
  unfold f_X0_lossOf sLs
  rw [q2, q1]
  by_cases c : g (11 + 4 * k + 2) = 0
  · rw [if_pos c, if_pos c]
    exact zk_some ⟨rfl, wr.rf⟩
  rw [if_neg c, if_neg c]
  refine zk_e (c_shades h _) ?_
  by_cases d : sShd g (g 7) (g (11 + 4 * k + 1)) = 0
  · rw [if_pos d, if_pos d]
    refine zk_call (c_plainLoss h hT o (p + 1 + 2 + k) k (by omega) q2 q3) (fun r s hp' => ?_)
    obtain ⟨hr, hw⟩ := hp'
    refine zk_e (c_sunLoss _ _) ?_
    unfold B_X0_lossOf_36
    have s0 : s (p + 1 + 2 + k) 0 = g (11 + 4 * k) := (hw _ 0 (by unfold WS; omega)).trans q0
    have s2 : s (p + 1 + 2 + k) 2 = g (11 + 4 * k + 2) := (hw _ 2 (by unfold WS; omega)).trans q2
    rw [s0, s2, hr]
    exact zk_let (fun y ey => zk_some ⟨ey, hw⟩)
  · rw [if_neg d, if_neg d]
    have e : f_X4_shadeLoss (p + 1 + 2 + k) σ = some (if g (11 + 4 * k) = 4 then 2 else 0, σ) := by
      unfold f_X4_shadeLoss
      rw [q0]
      by_cases e4 : g (11 + 4 * k) = 4
      · rw [if_pos e4, if_pos e4]
      · rw [if_neg e4, if_neg e4]
    refine zk_e e ?_
    unfold B_X0_lossOf_36
    rw [q2]
    exact zk_let (fun y ey => zk_some ⟨ey, wr.rf⟩)
theorem c_byLoss (h : EQB σ p g) (hT : TXR σ p g) (o : gOK g) (hp : 53 ≤ p) : zk (f_X0_haulingByLoss p σ) (fun r s => r = (sBL g (g 0).toNatClampNeg).1 ∧ wr WS σ s) := by
  obtain ⟨hN, _⟩ := o.1
  have e0 := zt_0
  have e1 := zt_1
  have nn := ztn hN.1
  unfold f_X0_haulingByLoss L_X0_haulingByLoss_6
  refine zl_III (fun (x1 x2 x3 : Int32) (s : zg_S) => wr WS σ s ∧ ∃ i : Nat, x3.toInt = i ∧ (i : Int) ≤ (g 0).toInt ∧ (x1, x2) = sBL g i) (fun (_ _ x3 : Int32) (_ : zg_S) => (9 - x3.toInt).toNat) ?_ zfu _ _ _ _ ⟨wr.rf, 0, e0, by omega, rfl⟩ (by unfold zfu; omega)
  intro rec x1 x2 x3 s hI ih
  obtain ⟨hw, i, hi, hi2, hx⟩ := hI
  have hs := eqb_ws h hp hN.2 hw
  have hTs := txr_ws hT hp o.2.2.1.2 hw
  unfold B_X0_haulingByLoss_6
  rw [show s p 3 = g 0 from hs.f 0 (by decide)]
  refine zk_ite (fun hle => ?_) (fun hlt => ?_)
  · have gl := zle hle
    refine zk_some ⟨?_, hw⟩
    rw [show (g 0).toNatClampNeg = i by omega, ← hx]
  · have gl := znle hlt
    have ni := ztn (i := x3) (by omega)
    have hk : (i : Int) < (g 0).toInt := by omega
    refine zk_in (zin_mk (by omega) (by omega)) ?_
    rw [show x3.toNatClampNeg = i by omega, hs.2 i 1 hk (by decide)]
    have ex := zTe (zTadd (zTs x3) (zTl zt_1) (by omega) (by omega))
    have hx1 : x1 = (sBL g i).1 := congrArg Prod.fst hx
    have hx2 : x2 = (sBL g i).2 := congrArg Prod.snd hx
    have nx7 : ∀ (y1 y2 : Int32) (t : zg_S), wr WS σ t → (y1, y2) = sBL g (i + 1) → zk (B_X0_haulingByLoss_78 p rec y1 y2 x3 t) (fun r s => r = (sBL g (g 0).toNatClampNeg).1 ∧ wr WS σ s) := fun y1 y2 t ht he => by
      unfold B_X0_haulingByLoss_78
      exact ih y1 y2 (x3 + 1) t ⟨ht, i + 1, by rw [ex, hi]; rfl, by omega, he⟩ (by show (9 - (x3 + 1).toInt).toNat < (9 - x3.toInt).toNat; rw [ex]; omega)
    have b44 : ∀ (y : Int32) (t : zg_S), wr WS σ t → y = sLo g i → zk (B_X0_haulingByLoss_44 p rec x1 x2 x3 (p + 1 + 2 + i) y t) (fun r s => r = (sBL g (g 0).toNatClampNeg).1 ∧ wr WS σ s) := fun y t ht hy => by
      have hst := eqb_ws h hp hN.2 ht
      unfold B_X0_haulingByLoss_44
      rw [hx2, hy]
      have eB : sBL g (i + 1) = if sLo g i ≤ (sBL g i).2 then sBL g i else (sDir g i, sLo g i) := rfl
      refine zk_ite (fun hle => ?_) (fun hlt => ?_)
      · exact nx7 _ _ t ht (by rw [eB, if_pos hle, hx1])
      · rw [if_neg hlt] at eB
        refine zk_e (c_slant hst) ?_
        rw [show t p 6 = g 7 from hst.f 7 (by decide), hst.2 i 1 hk (by decide)]
        unfold B_X0_haulingByLoss_77
        refine zk_ite (fun hd => ?_) (fun hd => ?_)
        · exact nx7 _ _ t ht (by rw [eB]; unfold sDir; rw [if_pos hd])
        · exact nx7 _ _ t ht (by rw [eB]; unfold sDir; rw [if_neg hd])
    refine zk_e (c_shades hs _) ?_
    refine zk_ite (fun hd => ?_) (fun hd => ?_)
    · refine zk_call (c_lossOf hs hTs o hp i hk) (fun r t hp' => ?_)
      exact b44 r t (hw.tr hp'.2 (fun _ _ z => z)) (by rw [hp'.1]; unfold sLo; rw [if_pos hd])
    · exact b44 0 s hw (by unfold sLo; rw [if_neg hd])
theorem sPay_b (o : gOK g) (F : Int32) : ∀ k : Nat, (k : Int) ≤ (g 0).toInt → 0 ≤ (sPay g F k).toInt ∧ (sPay g F k).toInt ≤ 99 * k := by
  obtain ⟨hN, _⟩ := o.1
  intro k
  induction k with
  | zero => intro _; exact ⟨by show 0 ≤ (0 : Int32).toInt; decide, by show (0 : Int32).toInt ≤ _; decide⟩
  | succ k ih =>
    intro hk
    have h := ih (by omega)
    obtain ⟨_, _, _, h4⟩ := o.2.1 k (by omega)
    show 0 ≤ (if sShd g F (g (11 + 4 * k + 1)) = 0 then sPay g F k else sPay g F k + g (11 + 4 * k + 3)).toInt ∧ (if sShd g F (g (11 + 4 * k + 1)) = 0 then sPay g F k else sPay g F k + g (11 + 4 * k + 3)).toInt ≤ 99 * ((k + 1 : Nat) : Int)
    by_cases c : sShd g F (g (11 + 4 * k + 1)) = 0
    · rw [if_pos c]; omega
    · rw [if_neg c, zTe (zTadd (zTs (sPay g F k)) (zTs (g (11 + 4 * k + 3))) (by omega) (by omega))]; omega
theorem c_payUnder (h : EQB σ p g) (o : gOK g) (F : Int32) : zk (f_X0_payUnder p F σ) (fun r s => σ = s ∧ r = sPay g F (g 0).toNatClampNeg) := by
  obtain ⟨hN, _⟩ := o.1
  have e0 := zt_0
  have e1 := zt_1
  have nn := ztn hN.1
  unfold f_X0_payUnder L_X0_payUnder_4
  refine zl_II (fun (x2 x3 : Int32) (s : zg_S) => σ = s ∧ ∃ i : Nat, x3.toInt = i ∧ (i : Int) ≤ (g 0).toInt ∧ x2 = sPay g F i) (fun (_ x3 : Int32) (_ : zg_S) => (9 - x3.toInt).toNat) ?_ zfu _ _ _ ⟨rfl, 0, e0, by omega, rfl⟩ (by unfold zfu; omega)
  intro rec x2 x3 s hI ih
  obtain ⟨rfl, i, hi, hi2, hx⟩ := hI
  unfold B_X0_payUnder_4
  rw [show σ p 3 = g 0 from h.f 0 (by decide)]
  refine zk_ite (fun hle => ?_) (fun hlt => ?_)
  · have gl := zle hle
    exact zk_some ⟨rfl, by rw [show (g 0).toNatClampNeg = i by omega]; exact hx⟩
  · have gl := znle hlt
    have ni := ztn (i := x3) (by omega)
    have hk : (i : Int) < (g 0).toInt := by omega
    refine zk_in (zin_mk (by omega) (by omega)) ?_
    rw [show x3.toNatClampNeg = i by omega, h.2 i 1 hk (by decide)]
    have ex := zTe (zTadd (zTs x3) (zTl zt_1) (by omega) (by omega))
    have nx7 : ∀ y : Int32, y = sPay g F (i + 1) → zk (B_X0_payUnder_41 p F rec y x3 σ) (fun r s => σ = s ∧ r = sPay g F (g 0).toNatClampNeg) := fun y hy => by
      unfold B_X0_payUnder_41
      exact ih y (x3 + 1) σ ⟨rfl, i + 1, by rw [ex, hi]; rfl, by omega, hy⟩ (by show (9 - (x3 + 1).toInt).toNat < (9 - x3.toInt).toNat; rw [ex]; omega)
    have eP : sPay g F (i + 1) = if sShd g F (g (11 + 4 * i + 1)) = 0 then sPay g F i else sPay g F i + g (11 + 4 * i + 3) := rfl
    refine zk_e (c_wouldShade h _ _) ?_
    refine zk_ite (fun hd => ?_) (fun hd => ?_)
    · exact nx7 _ (by rw [eP, if_pos hd]; exact hx)
    · exact zk_let (fun y ey => nx7 _ (by rw [eP, if_neg hd, ey, hx, h.2 i 3 hk (by decide)]))
theorem c_byPay (h : EQB σ p g) (o : gOK g) : zk (f_X0_haulingByPay p σ) (fun r s => σ = s ∧ r = sByPay g) := by
  obtain ⟨hN, _⟩ := o.1
  have e0 := zt_0
  have e1 := zt_1
  have em := zt_m1
  have nn := ztn hN.1
  have hb : 0 ≤ (sPy g 0).toInt := (sPay_b o (sTo g 0) (g 0).toNatClampNeg (by omega)).1
  unfold f_X0_haulingByPay L_X0_haulingByPay_6
  refine zl_III (fun (x1 x2 x3 : Int32) (s : zg_S) => σ = s ∧ ((x3 = 0 ∧ x1 = 0 ∧ x2 = -1) ∨ (x3 = 1 ∧ x1 = 0 ∧ x2 = sPy g 0) ∨ (x3 = 2 ∧ x1 = (if sPy g 1 ≤ sPy g 0 then 0 else 1) ∧ x2 = (if sPy g 1 ≤ sPy g 0 then sPy g 0 else sPy g 1)) ∨ (x3 = 3 ∧ x1 = sByPay g))) (fun (_ _ x3 : Int32) (_ : zg_S) => (3 - x3.toInt).toNat) ?_ zfu _ _ _ _ ⟨rfl, Or.inl ⟨rfl, rfl, rfl⟩⟩ (by unfold zfu; omega)
  intro rec x1 x2 x3 s hI ih
  obtain ⟨rfl, hI⟩ := hI
  unfold B_X0_haulingByPay_6
  have pc : ∀ (mv : Int32) (k : Int32 → zg_S → Option (Int32 × zg_S)) (P : Int32 → zg_S → Prop), zk (k (sPy g mv) σ) P → zk (zbd (f_X0_hauledTo p mv σ) (fun r6 σ7 => zbd (f_X0_payUnder p r6 σ7) k)) P := fun mv k P hk => by
    refine zk_e (c_hauledTo h mv) ?_
    refine zk_call (c_payUnder h o (sTo g mv)) (fun r s hp => ?_)
    obtain ⟨rfl, hr⟩ := hp
    rw [hr]
    exact hk
  rcases hI with ⟨rfl, rfl, rfl⟩ | ⟨rfl, rfl, rfl⟩ | ⟨rfl, rfl, rfl⟩ | ⟨rfl, rfl⟩
  · refine zk_ite (fun z => absurd z (by decide)) (fun _ => ?_)
    refine pc 0 _ _ ?_
    unfold B_X0_haulingByPay_33
    refine zk_ite (fun z => absurd (zle z) (by omega)) (fun _ => ?_)
    exact ih _ _ _ σ ⟨rfl, Or.inr (Or.inl ⟨by decide, rfl, rfl⟩)⟩ (by decide)
  · refine zk_ite (fun z => absurd z (by decide)) (fun _ => ?_)
    refine pc 1 _ _ ?_
    unfold B_X0_haulingByPay_33
    refine zk_ite (fun z => ?_) (fun z => ?_)
    · exact ih _ _ _ σ ⟨rfl, Or.inr (Or.inr (Or.inl ⟨by decide, by rw [if_pos z], by rw [if_pos z]⟩))⟩ (by decide)
    · exact ih _ _ _ σ ⟨rfl, Or.inr (Or.inr (Or.inl ⟨by decide, by rw [if_neg z], by rw [if_neg z]⟩))⟩ (by decide)
  · refine zk_ite (fun z => absurd z (by decide)) (fun _ => ?_)
    refine pc 2 _ _ ?_
    unfold B_X0_haulingByPay_33
    refine zk_ite (fun z => ?_) (fun z => ?_)
    · exact ih _ _ _ σ ⟨rfl, Or.inr (Or.inr (Or.inr ⟨by decide, by unfold sByPay; rw [if_pos z]⟩))⟩ (by decide)
    · exact ih _ _ _ σ ⟨rfl, Or.inr (Or.inr (Or.inr ⟨by decide, by unfold sByPay; rw [if_neg z]⟩))⟩ (by decide)
  · refine zk_ite (fun _ => zk_some ⟨rfl, rfl⟩) (fun z => absurd (by decide) z)
theorem c_hauling (h : EQB σ p g) (hT : TXR σ p g) (o : gOK g) (hp : 53 ≤ p) : zk (f_X0_hauling p σ) (fun r s => r = sHl g ∧ wr WS σ s) := by
  unfold f_X0_hauling sHl
  rw [show σ p 9 = g 10 from h.f 10 (by decide)]
  by_cases c : g 10 = 1
  · rw [if_pos c, if_pos c]
    exact zk_call (c_byLoss h hT o hp) (fun r s hp' => zk_some hp')
  · rw [if_neg c, if_neg c]
    by_cases d : g 10 = 2
    · rw [if_pos d, if_pos d]
      refine zk_call (c_byPay h o) (fun r s hp' => ?_)
      obtain ⟨rfl, hr⟩ := hp'
      exact zk_some ⟨hr, wr.rf⟩
    · rw [if_neg d, if_neg d]
      exact zk_some ⟨rfl, wr.rf⟩
end
end
section
theorem upd_self {g : Nat → Int32} {i : Nat} {v : Int32} (h : v = g i) : upd g i v = g := funext (fun j => by
  by_cases e : j = i
  · subst e; rw [pk_us, h]
  · rw [pk_un e])
theorem upd_upd {g : Nat → Int32} {i : Nat} {a b : Int32} : upd (upd g i a) i b = upd g i b := funext (fun j => by
  by_cases e : j = i
  · subst e; rw [pk_us, pk_us]
  · rw [pk_un e, pk_un e, pk_un e])
theorem upd_comm {g : Nat → Int32} {i j : Nat} {a b : Int32} (h : i ≠ j) : upd (upd g i a) j b = upd (upd g j b) i a := funext (fun k => by
  by_cases e : k = j
  · subst e
    rw [pk_us, pk_un (Ne.symm h), pk_us]
  · rw [pk_un e]
    by_cases f : k = i
    · subst f; rw [pk_us, pk_us]
    · rw [pk_un f, pk_un f, pk_un e])
/-! what an hour leaves of g -/
theorem sTo_b {g : Nat → Int32} (hB : gB g) (mv : Int32) : 0 ≤ (sTo g mv).toInt ∧ (sTo g mv).toInt ≤ 12 - (g 8).toInt := by
  obtain ⟨_, _, h8, h7, _, _⟩ := hB
  have e0 := zt_0
  have e1 := zt_1
  have e12 := zt_12
  have a := zTe (zTsub (zTs (g 7)) (zTl zt_1) (by omega) (by omega))
  have b := zTe (zTadd (zTs (g 7)) (zTl zt_1) (by omega) (by omega))
  have c := zTe (zTsub (zTl zt_12) (zTs (g 8)) (by omega) (by omega))
  unfold sTo
  by_cases c1 : mv = 1
  · rw [if_pos c1]
    by_cases d : g 7 - 1 < 0
    · rw [if_pos d]; omega
    · rw [if_neg d]; have := znlt d; omega
  · rw [if_neg c1]
    by_cases c2 : mv = 2
    · rw [if_pos c2]
      by_cases d : 12 - g 8 < g 7 + 1
      · rw [if_pos d]; omega
      · rw [if_neg d]; have := znlt d; omega
    · rw [if_neg c2]; omega
theorem sBl_c {g : Nat → Int32} {i : Nat} (h5 : i ≠ 5) (h6 : i ≠ 6) (h7 : i ≠ 7) : sBl g i = g i := by
  unfold sBl
  by_cases c : sD (sZ (g 6)) - sD (sZ (g 6)) / 100 * 100 < g 9
  · rw [if_pos c, pk_un h5, pk_un h7, pk_un h6]
  · rw [if_neg c, pk_un h6]
theorem g12 {g : Nat → Int32} (hB : gB g) : (12 - g 8).toInt = 12 - (g 8).toInt := by
  obtain ⟨_, _, h8, _⟩ := hB
  have e12 := zt_12
  exact zTe (zTsub (zTl zt_12) (zTs (g 8)) (by omega) (by omega))
theorem sBl_ok {g : Nat → Int32} (o : gOK g) : gOK (sBl g) := by
  have e := g12 o.1
  obtain ⟨_, _, h8, _⟩ := o.1
  unfold sBl
  by_cases c : sD (sZ (g 6)) - sD (sZ (g 6)) / 100 * 100 < g 9
  · rw [if_pos c]
    refine ((o.lo (Or.inr (Or.inr (Or.inr rfl)))).first ?_).lo (Or.inr (Or.inr (Or.inl rfl)))
    rw [pk_un (by decide), ← e]
    exact sHeld_b _ _ (by omega)
  · rw [if_neg c]
    exact o.lo (Or.inr (Or.inr (Or.inr rfl)))
theorem sHr_c {g : Nat → Int32} {F : Int32} {i : Nat} (hN : 0 ≤ (g 0).toInt ∧ (g 0).toInt ≤ 9) (h : i = 0 ∨ i = 1 ∨ (8 ≤ i ∧ i < 11) ∨ 47 ≤ i ∨ (11 ≤ i ∧ i % 4 ≠ 1)) : sHr g F i = g i := by
  have nn := ztn hN.1
  unfold sHr
  rw [pk_un (by omega), sBl_c (by omega) (by omega) (by omega), sLp_c (by omega) (by omega) (by omega) _ (by omega), pk_un (by omega)]
theorem sHr_st {g : Nat → Int32} {F : Int32} (hN : 0 ≤ (g 0).toInt ∧ (g 0).toInt ≤ 9) : STx g (sHr g F) := ⟨sHr_c hN (by decide), fun i hi => sHr_c hN (by omega)⟩
theorem sHr_2 {g : Nat → Int32} {F : Int32} (hN : 0 ≤ (g 0).toInt ∧ (g 0).toInt ≤ 9) : sHr g F 2 = g 2 + 1 := by
  have nn := ztn hN.1
  unfold sHr
  rw [pk_us, sBl_c (by decide) (by decide) (by decide), sLp_c (by decide) (by decide) (by decide) _ (by omega), pk_un (by decide)]
theorem sHr_ok {g : Nat → Int32} {F : Int32} (o : gOK g) (h : (g 2).toInt < 20000) (hF : 0 ≤ F.toInt ∧ F.toInt ≤ 12 - (g 8).toInt) : gOK (sHr g F) := by
  obtain ⟨hN, h2, _⟩ := o.1
  have nn := ztn hN.1
  have e1 := zt_1
  have e := zTe (zTadd (zTs (g 2)) (zTl zt_1) (by omega) (by omega))
  have e2 := sHr_2 (F := F) hN
  unfold sHr at e2 ⊢
  rw [pk_us] at e2
  rw [e2]
  refine (sBl_ok (sLp_ok (o.first hF) _ ?_)).hour ⟨by rw [e]; omega, by rw [e]; omega⟩
  rw [pk_un (by decide)]
  omega
theorem sLp_sum {g : Nat → Int32} (o : gOK g) (h3 : 0 ≤ (g 3).toInt ∧ (g 3).toInt ≤ 1000000000) (h4 : 0 ≤ (g 4).toInt ∧ (g 4).toInt ≤ 1000000000) : ∀ k : Nat, (k : Int) ≤ (g 0).toInt → ((g 3).toInt ≤ (sLp g k 3).toInt ∧ (sLp g k 3).toInt ≤ (g 3).toInt + 99 * k) ∧ ((g 4).toInt ≤ (sLp g k 4).toInt ∧ (sLp g k 4).toInt ≤ (g 4).toInt + 999 * k) := by
  obtain ⟨hN, _⟩ := o.1
  intro k
  induction k with
  | zero => intro _; exact ⟨⟨Int.le_refl _, by show (g 3).toInt ≤ _; omega⟩, ⟨Int.le_refl _, by show (g 4).toInt ≤ _; omega⟩⟩
  | succ k ih =>
    intro hk
    obtain ⟨a, b⟩ := ih (by omega)
    have ok := sLp_ok o k (by omega)
    have e00 : sLp g k 0 = g 0 := sLp_c (by decide) (by decide) (by decide) k (by omega)
    have bs := ok.2.1 k (by rw [e00]; omega)
    have hl := sLs_b ok.1 bs
    obtain ⟨_, _, h2, h5⟩ := bs
    have e0 := zt_0
    show ((g 3).toInt ≤ (sSt (sLp g k) k 3).toInt ∧ (sSt (sLp g k) k 3).toInt ≤ (g 3).toInt + 99 * ((k + 1 : Nat) : Int)) ∧ ((g 4).toInt ≤ (sSt (sLp g k) k 4).toInt ∧ (sSt (sLp g k) k 4).toInt ≤ (g 4).toInt + 999 * ((k + 1 : Nat) : Int))
    unfold sSt
    rw [pk_us, pk_un (by decide), pk_un (by omega), pk_us]
    rw [zTe (zTadd (zTs (sLp g k 4)) (zTs (sLs (sLp g k) k)) (by omega) (by omega))]
    refine ⟨?_, by omega⟩
    by_cases c : sShd (sLp g k) (sLp g k 7) (sLp g k (11 + 4 * k + 1)) = 0
    · rw [if_pos c, zTe (zTadd (zTs (sLp g k 3)) (zTl zt_0) (by omega) (by omega))]; omega
    · rw [if_neg c, zTe (zTadd (zTs (sLp g k 3)) (zTs (sLp g k (11 + 4 * k + 3))) (by omega) (by omega))]; omega
/-- coins, spoilt, torn behind an hour -/
theorem sHr_C {g : Nat → Int32} {F : Int32} (o : gOK g) (hc : gC g) (h : (g 2).toInt < 20000) (hF : 0 ≤ F.toInt ∧ F.toInt ≤ 12 - (g 8).toInt) : gC (sHr g F) ∧ (g 4).toInt ≤ (sHr g F 4).toInt := by
  obtain ⟨hN, h2, _⟩ := o.1
  obtain ⟨c3, c4, c5⟩ := hc
  have nn := ztn hN.1
  have e1 := zt_1
  have e0 := zt_0
  have e := zTe (zTadd (zTs (g 2)) (zTl zt_1) (by omega) (by omega))
  have e2 := sHr_2 (F := F) hN
  have of := o.first hF
  have sm := sLp_sum of (by rw [pk_un (by decide)]; omega) (by rw [pk_un (by decide)]; omega) (g 0).toNatClampNeg (by rw [pk_un (by decide)]; omega)
  rw [pk_un (by decide : 3 ≠ 7), pk_un (by decide : 4 ≠ 7)] at sm
  have k3 : sHr g F 3 = sLp (upd g 7 F) (g 0).toNatClampNeg 3 := by unfold sHr; rw [pk_un (by decide), sBl_c (by decide) (by decide) (by decide)]
  have k4 : sHr g F 4 = sLp (upd g 7 F) (g 0).toNatClampNeg 4 := by unfold sHr; rw [pk_un (by decide), sBl_c (by decide) (by decide) (by decide)]
  have k5 : (g 5).toInt ≤ (sHr g F 5).toInt ∧ (sHr g F 5).toInt ≤ (g 5).toInt + 1 := by
    have l5 : sLp (upd g 7 F) (g 0).toNatClampNeg 5 = g 5 := (sLp_c (by decide) (by decide) (by decide) _ (by omega)).trans (pk_un (by decide))
    unfold sHr
    rw [pk_un (by decide)]
    unfold sBl
    by_cases c : sD (sZ (sLp (upd g 7 F) (g 0).toNatClampNeg 6)) - sD (sZ (sLp (upd g 7 F) (g 0).toNatClampNeg 6)) / 100 * 100 < sLp (upd g 7 F) (g 0).toNatClampNeg 9
    · rw [if_pos c, pk_us, l5]
      by_cases d : sBy3 (sZ (sZ (sLp (upd g 7 F) (g 0).toNatClampNeg 6))) = 0
      · rw [if_pos d, zTe (zTadd (zTs (g 5)) (zTl zt_0) (by omega) (by omega))]; omega
      · rw [if_neg d, zTe (zTadd (zTs (g 5)) (zTl zt_1) (by omega) (by omega))]; omega
    · rw [if_neg c, pk_un (by decide), l5]; omega
  have e2' := congrArg Int32.toInt e2
  unfold gC
  rw [k3, k4]
  refine ⟨⟨⟨by omega, by omega⟩, ⟨by omega, by omega⟩, ⟨by omega, by omega⟩⟩, by omega⟩
/-! the class's hour -/
section
variable {σ : zg_S} {p : Nat} {g : Nat → Int32}
theorem txr_up {q k : Nat} {v : Int32} (h : TXR σ p g) (hn : (g 1).toInt ≤ 14) (h1 : q ≠ p + 2) (h2 : 53 ≤ q) : TXR (zg_up σ q k v) p g := h.wr hn (fun j => congrFun (zg_row_ne (Ne.symm h1)) j) (fun r j _ hr _ => congrFun (zg_row_ne (by omega)) j)
theorem c_draw (h : EQB σ p g) : f_X0_draw p σ = some (sD (sZ (g 6)), zg_up σ p 13 (sZ (g 6))) := by
  unfold f_X0_draw
  rw [show σ p 13 = g 6 from h.f 6 (by decide)]
  show some ((Int32.toUInt32 (zg_up σ p 13 (sZ (g 6)) p 13) >>> (Int32.toUInt32 8 &&& Int32.toUInt32 31)).toInt32, zg_up σ p 13 (sZ (g 6))) = _
  rw [zgot]
  rfl
theorem c_blow (h : EQB σ p g) : zk (f_X0_blow p σ) (fun _ s => EQB s p (sBl g)) := by
  unfold f_X0_blow
  refine zk_e (c_draw h) ?_
  have h1 : EQB (zg_up σ p 13 (sZ (g 6))) p (upd g 6 (sZ (g 6))) := h.up 6 (by decide) (by decide) rfl
  have n9 : (zg_up σ p 13 (sZ (g 6))) p 8 = g 9 := (h1.f 9 (by decide)).trans (pk_un (by decide))
  rw [n9]
  unfold sBl
  refine zk_ite (fun hc => ?_) (fun hc => ?_)
  · rw [if_pos hc]
    have d2 := c_draw h1
    rw [pk_us] at d2
    refine zk_e d2 ?_
    have h2 : EQB (zg_up (zg_up σ p 13 (sZ (g 6))) p 13 (sZ (sZ (g 6)))) p (upd g 6 (sZ (sZ (g 6)))) := by
      have := h1.up (v := sZ (sZ (g 6))) 6 (by decide) (by decide) rfl
      rw [upd_upd] at this
      exact this
    have l2 := c_lastFirst h2
    rw [pk_un (by decide)] at l2
    refine zk_e l2 ?_
    refine zk_e (c_held _ _ _ _) ?_
    rw [show zg_up (zg_up σ p 13 (sZ (g 6))) p 13 (sZ (sZ (g 6))) p 6 = g 7 from (h2.f 7 (by decide)).trans (pk_un (by decide))]
    refine zk_let (fun s q => ?_)
    have h3 : EQB s p (upd (upd g 6 (sZ (sZ (g 6)))) 7 (sHeld (g 7 + sBy3 (sZ (sZ (g 6)))) 0 (12 - g 8))) := by
      rw [q]
      exact h2.up 7 (by decide) (by decide) rfl
    refine zk_ite (fun hz => ?_) (fun hz => ?_)
    · refine zk_some ?_
      rw [if_pos (show sBy3 (sZ (sZ (g 6))) = 0 from hz), upd_self]
      · exact h3
      · rw [pk_un (by decide), pk_un (by decide)]
        exact Int32.add_zero _
    · refine zk_let (fun t q2 => ?_)
      refine zk_some ?_
      rw [if_neg (show ¬ sBy3 (sZ (sZ (g 6))) = 0 from hz), q2]
      rw [show s p 12 = g 5 from (h3.f 5 (by decide)).trans ((pk_un (by decide)).trans (pk_un (by decide)))]
      exact h3.up 5 (by decide) (by decide) rfl
  · rw [if_neg hc]
    exact zk_some h1
theorem c_hour (h : EQB σ p g) (hT : TXR σ p g) (o : gOK g) (hp : 53 ≤ p) (mv : Int32) : zk (f_X0_passHour p mv σ) (fun _ s => EQB s p (sHr g (sTo g mv)) ∧ TXR s p (sHr g (sTo g mv))) := by
  obtain ⟨hN, _⟩ := id o.1
  have e0 := zt_0
  have e1 := zt_1
  have nn := ztn hN.1
  unfold f_X0_passHour
  refine zk_e (c_hauledTo h mv) ?_
  refine zk_let (fun s1 q1 => ?_)
  have h1 : EQB s1 p (upd g 7 (sTo g mv)) := by rw [q1]; exact h.up 7 (by decide) (by decide) rfl
  have o1 : gOK (upd g 7 (sTo g mv)) := o.first (sTo_b o.1 mv)
  have T1 : TXR s1 p (upd g 7 (sTo g mv)) := by rw [q1]; exact (txr_up hT o.2.2.1.2 (by omega) hp).st (STx.rf.up (by decide) (by decide))
  have g10 : upd g 7 (sTo g mv) 0 = g 0 := pk_un (by decide)
  unfold sHr
  generalize upd g 7 (sTo g mv) = g1 at h1 o1 T1 g10 ⊢
  unfold L_X0_passHour_11
  refine zl_I (fun (x2 : Int32) (s : zg_S) => ∃ i : Nat, x2.toInt = i ∧ (i : Int) ≤ (g 0).toInt ∧ EQB s p (sLp g1 i) ∧ TXR s p (sLp g1 i)) (fun (x2 : Int32) (_ : zg_S) => (9 - x2.toInt).toNat) ?_ zfu _ _ ⟨0, e0, by omega, h1, T1⟩ (by unfold zfu; omega)
  intro rec x2 s hI ih
  obtain ⟨i, hi, hi2, hs, Ts⟩ := hI
  have hgi : sLp g1 i 0 = g 0 := (sLp_c (by decide) (by decide) (by decide) i (by omega)).trans g10
  have oi : gOK (sLp g1 i) := sLp_ok o1 i (by rw [g10]; exact hi2)
  unfold B_X0_passHour_11
  rw [show s p 3 = g 0 from (hs.f 0 (by decide)).trans hgi]
  refine zk_ite (fun hle => ?_) (fun hlt => ?_)
  · have gl := zle hle
    have ei : (g 0).toNatClampNeg = i := by omega
    rw [ei]
    refine zk_call (zk_w (c_blow hs) (w_X0_blow p s)) (fun _ t hp' => ?_)
    obtain ⟨ht, hw⟩ := hp'
    refine zk_let (fun u q => ?_)
    have T2 : TXR t p (sBl (sLp g1 i)) := (Ts.wr oi.2.2.1.2 (fun k => hw _ k (by unfold W_X0_blow; omega)) (fun r k _ hr _ => hw r k (by unfold W_X0_blow; omega))).st ⟨sBl_c (by decide) (by decide) (by decide), fun j hj => sBl_c (by omega) (by omega) (by omega)⟩
    refine zk_some ⟨?_, ?_⟩
    · rw [q, show t p 7 = sBl (sLp g1 i) 2 from ht.f 2 (by decide)]
      exact ht.up 2 (by decide) (by decide) rfl
    · rw [q]
      exact (txr_up T2 (sBl_ok oi).2.2.1.2 (by omega) hp).st (STx.rf.up (by decide) (by decide))
  · have gl := znle hlt
    have ni := ztn (i := x2) (by omega)
    have hk : (i : Int) < (sLp g1 i 0).toInt := by rw [hgi]; omega
    refine zk_in (zin_mk (by omega) (by omega)) ?_
    rw [show x2.toNatClampNeg = i by omega]
    have ex := zTe (zTadd (zTs x2) (zTl zt_1) (by omega) (by omega))
    have so := sSt_ok oi hk
    have nx7 : ∀ t : zg_S, EQB t p (sSt (sLp g1 i) i) → TXR t p (sSt (sLp g1 i) i) → zk (B_X0_passHour_79 p mv rec x2 t) (fun _ s => EQB s p (upd (sBl (sLp g1 (g 0).toNatClampNeg)) 2 (sBl (sLp g1 (g 0).toNatClampNeg) 2 + 1)) ∧ TXR s p (upd (sBl (sLp g1 (g 0).toNatClampNeg)) 2 (sBl (sLp g1 (g 0).toNatClampNeg) 2 + 1))) := fun t ht Tt => by
      unfold B_X0_passHour_79
      exact ih (x2 + 1) t ⟨i + 1, by rw [ex, hi]; rfl, by omega, ht, Tt⟩ (by show (9 - (x2 + 1).toInt).toNat < (9 - x2.toInt).toNat; rw [ex]; omega)
    generalize sLp g1 i = w at hs Ts oi hk so nx7 hgi ⊢
    refine zk_call (c_lossOf hs Ts oi hp i hk) (fun r t hp' => ?_)
    obtain ⟨hr, hw⟩ := hp'
    subst hr
    have ht := eqb_ws hs hp oi.1.1.2 hw
    have Tt := txr_ws Ts hp oi.2.2.1.2 hw
    have stx : STx w (sSt w i) := ⟨sSt_c (by decide) (by decide) (by omega), fun j hj => sSt_c (by omega) (by omega) (by omega)⟩
    refine zk_let (fun y ey => ?_)
    rw [ht.2 i 2 hk (by decide)] at ey
    refine zk_let (fun t1 q1 => ?_)
    have a1 : EQB t1 p (upd w (11 + 4 * i + 2) y) := by rw [q1]; exact ht.upS i 2 (by decide)
    have T1 : TXR t1 p w := by rw [q1]; exact txr_up Tt oi.2.2.1.2 (by omega) (by omega)
    refine zk_let (fun t2 q2 => ?_)
    rw [show t1 p 11 = w 4 from (a1.f 4 (by decide)).trans (pk_un (by omega))] at q2
    have a2 : EQB t2 p (upd (upd w (11 + 4 * i + 2) y) 4 (w 4 + sLs w i)) := by rw [q2]; exact a1.up 4 (by decide) (by decide) rfl
    have T2 : TXR t2 p w := by rw [q2]; exact txr_up T1 oi.2.2.1.2 (by omega) hp
    have c2 : ∀ j, j ≠ 4 → j ≠ 11 + 4 * i + 2 → upd (upd w (11 + 4 * i + 2) y) 4 (w 4 + sLs w i) j = w j := fun j j1 j2 => by rw [pk_un j1, pk_un j2]
    have hk2 : (i : Int) < (upd (upd w (11 + 4 * i + 2) y) 4 (w 4 + sLs w i) 0).toInt := by rw [c2 0 (by decide) (by omega)]; exact hk
    have sh := c_shades a2 (t2 (p + 1 + 2 + i) 1)
    rw [a2.2 i 1 hk2 (by decide), c2 _ (by omega) (by omega), c2 7 (by decide) (by omega), sShd_c (c2 2 (by decide) (by omega)) (c2 8 (by decide) (by omega))] at sh
    rw [a2.2 i 1 hk2 (by decide), c2 _ (by omega) (by omega)]
    refine zk_e sh ?_
    have eS : ∀ v : Int32, v = w 3 + (if sShd w (w 7) (w (11 + 4 * i + 1)) = 0 then 0 else w (11 + 4 * i + 3)) → sSt w i = upd (upd (upd w (11 + 4 * i + 2) y) 4 (w 4 + sLs w i)) 3 v := fun v hv => by
      unfold sSt
      rw [← hv, ey, upd_comm (i := 4) (j := 11 + 4 * i + 2) (by omega)]
    refine zk_ite (fun hz => ?_) (fun hz => ?_)
    · refine nx7 t2 ?_ (T2.st stx)
      rw [eS (w 3) (by rw [if_pos hz]; exact (Int32.add_zero _).symm), upd_self (c2 3 (by decide) (by omega)).symm]
      exact a2
    · refine zk_let (fun z ez => ?_)
      refine zk_let (fun t3 q3 => ?_)
      rw [show t2 p 10 = w 3 from (a2.f 3 (by decide)).trans (c2 3 (by decide) (by omega)), a2.2 i 3 hk2 (by decide), c2 _ (by omega) (by omega)] at ez
      refine nx7 t3 ?_ ?_
      · rw [eS z (by rw [if_neg hz]; exact ez), q3]
        exact a2.up 3 (by decide) (by decide) rfl
      · rw [q3]
        exact (txr_up T2 oi.2.2.1.2 (by omega) hp).st stx
end
end
section
/-! the reference's hour, over its row 1 -/
theorem zbd_s {r : Int32} {s : zg_S} {k : Int32 → zg_S → Option (Int32 × zg_S)} : zbd (some (r, s)) k = k r s := rfl
theorem r_isIn1 {a lo hi : Int32} (σ : zg_S) (h : lo.toInt ≤ a.toInt ∧ a.toInt ≤ hi.toInt) : f_X7_isIn (Int32.toInt64 a) (Int32.toInt64 lo) (Int32.toInt64 hi) σ = some (1, σ) := by
  obtain ⟨r, s, e, rfl, hr⟩ := x_isIn a lo hi σ
  rcases hr with ⟨_, hn⟩ | ⟨rfl, _⟩
  · exact absurd h hn
  · exact e
theorem r_isIn0 {a lo hi : Int32} (σ : zg_S) (h : ¬ (lo.toInt ≤ a.toInt ∧ a.toInt ≤ hi.toInt)) : f_X7_isIn (Int32.toInt64 a) (Int32.toInt64 lo) (Int32.toInt64 hi) σ = some (0, σ) := by
  obtain ⟨r, s, e, rfl, hr⟩ := x_isIn a lo hi σ
  rcases hr with ⟨rfl, _⟩ | ⟨_, hy⟩
  · exact e
  · exact absurd hy h
theorem sHeld_lo {a hi : Int32} (h : ¬ hi < a) : sHeld a 0 hi = if 0 < a then a else 0 := by
  unfold sHeld
  rw [if_neg h]
theorem sHeld_hi {a hi : Int32} (h : hi < a) : sHeld a 0 hi = if 0 < hi then hi else 0 := by
  unfold sHeld
  rw [if_pos h]
theorem nlt_i {a b : Int32} (h : b.toInt ≤ a.toInt) : ¬ a < b := fun z => by
  have := zlt z
  omega
theorem lt_i {a b : Int32} (h : a.toInt < b.toInt) : a < b := Int32.lt_iff_toInt_lt.mpr h
theorem r_within (a hi : Int32) (σ : zg_S) (h : 0 ≤ hi.toInt) : f_X7_within a hi σ = some (sHeld a 0 hi, σ) := by
  have e0 := zt_0
  have ii : ∀ a b : Int32, a.toInt = b.toInt → a = b := fun a b h => Int32.toInt_inj.mp h
  unfold f_X7_within
  by_cases c : 0 ≤ a
  · rw [if_pos c]
    have c' := zle c
    by_cases d : a ≤ hi
    · rw [if_pos d]
      have d' := zle d
      rw [sHeld_lo (nlt_i d')]
      by_cases f : (0 : Int32) < a
      · rw [if_pos f]
      · rw [if_neg f]
        have := znlt f
        rw [ii a 0 (by omega)]
    · rw [if_neg d]
      have d' := znle d
      rw [sHeld_hi (lt_i d')]
      by_cases f : (0 : Int32) < hi
      · rw [if_pos f]
      · rw [if_neg f]
        have := znlt f
        rw [ii hi 0 (by omega)]
  · rw [if_neg c]
    have c' := znle c
    rw [sHeld_lo (nlt_i (by omega)), if_neg (nlt_i (by omega))]
def tvs (g : Nat → Int32) : Prop := ∀ t : Nat, (t : Int) < (g 1).toInt → TV g t
theorem TV.st {g h : Nat → Int32} {t : Nat} (s : STx g h) (x : TV g t) : TV h t := fun i hi => by
  rw [s.2 _ (by omega)] at hi
  obtain ⟨c, hc⟩ := x i hi
  exact ⟨c, by rw [s.2 (47 + 200 * t) (by omega), s.2 (47 + 200 * t + 4 + 2 * i) (by omega), s.2 (47 + 200 * t + 4 + 2 * i + 1) (by omega)]; exact hc⟩
theorem tvs.st {g h : Nat → Int32} (s : STx g h) (x : tvs g) : tvs h := fun t ht => (x t (by rw [← s.1]; exact ht)).st s
theorem TXR.tv {σ : zg_S} {p : Nat} {g : Nat → Int32} (h : TXR σ p g) : tvs g := fun t ht => (h.2 t ht).tv
section
variable {τ : zg_S} {g : Nat → Int32}
theorem r_heat (h1 : τ 1 = g) (o : gOK g) : f_X7_heat τ = some (sHeat g, τ) := by
  obtain ⟨_, h2, _⟩ := o.1
  have e0 := zt_0
  have e5 := zt_5
  have et := sT_b h2.1
  have er := zrem (g 2) 10 10 zt_10 (by decide) (by decide) h2.1
  unfold f_X7_heat f_X7_off
  rw [h1]
  by_cases c : 5 ≤ g 2 - g 2 / 10 * 10
  · rw [if_pos c]
    have c' := zle c
    show some (45 - (5 * sT g), τ) = some (45 - (5 * sAbs (sT g)), τ)
    unfold sAbs
    rw [if_pos (Int32.le_iff_toInt_le.mpr (by omega))]
  · rw [if_neg c]
    have c' := znle c
    show some (45 - (5 * (5 - (g 2 - g 2 / 10 * 10))), τ) = some (45 - (5 * sAbs (sT g)), τ)
    unfold sAbs
    rw [if_neg (fun z => by have := zle z; omega), Int32.zero_sub]
    unfold sT
    rw [Int32.neg_sub]
theorem r_shadeFrom (h1 : τ 1 = g) : f_X7_shadeFrom τ = some (g 7 + sO g, τ) := by
  subst h1
  rfl
theorem r_of {a1 a2 : Int32} {k j : Nat} (h1 : τ 1 = g) (ha : a1.toInt = k) (hk : k ≤ 8) (hj : a2.toInt = j) (hj2 : j ≤ 3) : f_X7_of a1 a2 τ = some (g (11 + 4 * k + j), τ) := by
  have e11 := zt_11
  have e4 := zt_4
  have p := zTadd (zTadd (zTl zt_11) (zTmul (zTl zt_4) (zTs a1) (by omega) (by omega)) (by omega) (by omega)) (zTs a2) (by omega) (by omega)
  unfold f_X7_of
  rw [if_pos (zin_mkT p (by omega) (by omega)), h1, zTn p (show (11 + 4 * a1.toInt + a2.toInt : Int) = ((11 + 4 * k + j : Nat) : Int) by omega)]
theorem r_isShaded {a1 : Int32} {k : Nat} (h1 : τ 1 = g) (ha : a1.toInt = k) (hk : k ≤ 8) (h2 : 0 ≤ (g 2).toInt) (hw : 1 ≤ (g 8).toInt ∧ (g 8).toInt ≤ 6) (hF : -100 ≤ (g 7).toInt ∧ (g 7).toInt ≤ 100) : f_X7_isShaded a1 τ = some (sShd g (g 7) (g (11 + 4 * k + 1)), τ) := by
  unfold f_X7_isShaded
  rw [r_of h1 ha hk zt_1 (by decide), zbd_s, r_shadeFrom h1, zbd_s, r_shadeFrom h1, zbd_s, h1]
  have hr := sShd_r (g := g) (F := g 7) (pl := g (11 + 4 * k + 1)) h2 hw hF
  rcases sShd_01 g (g 7) (g (11 + 4 * k + 1)) with e | e
  · rw [r_isIn0 τ (fun z => absurd ((hr.mp z).symm.trans e) (by decide)), e]
    rfl
  · rw [r_isIn1 τ (hr.mpr e), e]
    rfl
theorem gF (o : gB g) : -100 ≤ (g 7).toInt ∧ (g 7).toInt ≤ 100 := by
  obtain ⟨_, _, h8, h7, _⟩ := o
  omega
theorem r_shaded {a1 : Int32} {k : Nat} (h1 : τ 1 = g) (o : gOK g) (ha : a1.toInt = k) (hk : (k : Int) < (g 0).toInt) : f_X7_isShaded a1 τ = some (sShd g (g 7) (g (11 + 4 * k + 1)), τ) := by
  obtain ⟨hN, h2, h8, _⟩ := id o.1
  exact r_isShaded h1 ha (by omega) h2.1 h8 (gF o.1)
theorem r_melts {a1 : Int32} {k : Nat} (h1 : τ 1 = g) (o : gOK g) (hV : tvs g) (ha : a1.toInt = k) (hk : (k : Int) < (g 0).toInt) : zk (f_X7_melts a1 τ) (fun r s => r = sPl g k ∧ s 1 = g) := by
  obtain ⟨hB, hS, hn, hW, _⟩ := id o
  obtain ⟨hN, h2, _⟩ := id hB
  obtain ⟨_, _, b2, _⟩ := hS k hk
  have nn := ztn hn.1
  have e0 := zt_0
  have hb := sCn_b g 0 (g 1).toNatClampNeg (by omega)
  refine zk_mono (zk_w ?_ (w_X7_melts a1 τ)) (fun r s hp => ⟨hp.1, ?_⟩)
  case refine_2 =>
    rw [← h1]
    exact funext (fun j => hp.2 1 j (by unfold W_X7_melts; omega))
  unfold f_X7_melts sPl
  refine zk_call (r_counts 0 τ g h1 hn) (fun r s hp => ?_)
  obtain ⟨rfl, rfl⟩ := hp
  by_cases c : 0 ≤ sCt g 0
  · have c0 := zle c
    have ht : (sCt g 0).toInt < (g 1).toInt := by have := hb.2.1; show (sCn g 0 (g 1).toNatClampNeg).toInt < _; omega
    have nt := ztn (i := sCt g 0) (by omega)
    have key : g (47 + 200 * (sCt g 0).toNatClampNeg) = 0 := hb.2.2 (by show 0 ≤ (sCt g 0).toInt; omega)
    have htt : ((sCt g 0).toNatClampNeg : Int) < (g 1).toInt := by omega
    rw [if_pos c, if_pos c]
    refine zk_e (r_heat h1 o) ?_
    refine zk_let (fun s1 q1 => ?_)
    have r1 : s1 1 = g := by rw [q1]; exact (zup_ne rfl).trans h1
    refine zk_e (r_of r1 ha (by omega) zt_2 (by decide)) ?_
    refine zk_let (fun s2 q2 => ?_)
    have r2 : s2 1 = g := by rw [q2]; exact (zup_ne rfl).trans r1
    refine zk_e (r_of r2 ha (by omega) zt_3 (by decide)) ?_
    refine zk_let (fun s3 q3 => ?_)
    have r3 : s3 1 = g := by rw [q3]; exact (zup_ne rfl).trans r2
    have v112 : s3 14 112 = g (11 + 4 * k + 3) := by rw [q3]; exact zgot
    have v103 : s3 14 103 = g (11 + 4 * k + 2) := by rw [q3]; refine (zkeepf rfl).trans ?_; rw [q2]; exact zgot
    have v104 : s3 14 104 = sHeat g := by rw [q3]; refine (zkeepf rfl).trans ?_; rw [q2]; refine (zkeepf rfl).trans ?_; rw [q1]; exact zgot
    refine zk_call (zk_w (r_worked (sCt g 0) (sCt g 0).toNatClampNeg (sHeat g) (g (11 + 4 * k + 2)) (g (11 + 4 * k + 3)) s3 g r3 (by omega) (by omega) (hV _ htt) (hW _ htt) ?_) (w_X7_worked _ s3)) (fun r s hp => ?_)
    · intro v c' hno
      rw [key] at hno ⊢
      rcases hno with ⟨_, h⟩ | ⟨h, _⟩ | ⟨h, _⟩
      · rcases h with ⟨h, _⟩ | ⟨h, _⟩ | ⟨h, _⟩
        · rw [h]; exact v104
        · rw [h]; exact v103
        · rw [h]; exact v112
      · exact absurd h (by decide)
      · exact absurd h (by decide)
    · have r4 : s 1 = g := (funext (fun j => hp.2 1 j (by unfold W_X7_worked; omega))).trans r3
      refine zk_e (r_of r4 ha (by omega) zt_2 (by decide)) ?_
      refine zk_e (r_within _ _ _ b2.1) ?_
      exact zk_some (by rw [hp.1])
  · rw [if_neg c, if_neg c]
    refine zk_e (r_heat h1 o) ?_
    exact zk_some rfl
theorem r_sp109 {a1 x : Int32} {k : Nat} (h1 : τ 1 = g) (ha : a1.toInt = k) (hk : k ≤ 8) : B_X7_spoils_109 a1 x τ = some (if x ≤ g (11 + 4 * k + 2) then x else g (11 + 4 * k + 2), τ) := by
  unfold B_X7_spoils_109
  rw [r_of h1 ha hk zt_2 (by decide), zbd_s, r_of h1 ha hk zt_2 (by decide), zbd_s]
  by_cases c : x ≤ g (11 + 4 * k + 2)
  · rw [if_pos c, if_pos c]
  · rw [if_neg c, if_neg c]
theorem r_spoils {a1 : Int32} {k : Nat} (h1 : τ 1 = g) (o : gOK g) (hV : tvs g) (ha : a1.toInt = k) (hk : (k : Int) < (g 0).toInt) : zk (f_X7_spoils a1 τ) (fun r s => r = sLs g k ∧ s 1 = g) := by
  obtain ⟨hN, _⟩ := id o.1
  have hb := o.2.1 k hk
  have k8 : k ≤ 8 := by omega
  rw [sLs_r o.1 hb]
  have fin : ∀ (y : Int32) (s : zg_S), s 1 = g → y = sRw g k → zk (B_X7_spoils_109 a1 y s) (fun r s => r = (if sRw g k ≤ g (11 + 4 * k + 2) then sRw g k else g (11 + 4 * k + 2)) ∧ s 1 = g) := fun y s hs hy => by
    rw [r_sp109 hs ha k8, hy]
    exact zk_some ⟨rfl, hs⟩
  have ml := r_melts h1 o hV ha hk
  unfold f_X7_spoils
  refine zk_e (r_shaded h1 o ha hk) ?_
  refine zk_ite (fun hz => ?_) (fun hz => ?_)
  · have eR : sRw g k = sSun (g (11 + 4 * k)) (sPl g k) := by unfold sRw; rw [if_pos hz]
    refine zk_e (r_of h1 ha k8 zt_0 (by decide)) ?_
    refine zk_ite (fun k0 => ?_) (fun k0 => ?_)
    · refine zk_call ml (fun r s hp => fin _ s hp.2 ?_)
      rw [eR, hp.1, show g (11 + 4 * k) = 0 from k0]
      rfl
    refine zk_e (r_of h1 ha k8 zt_0 (by decide)) ?_
    refine zk_ite (fun k1 => ?_) (fun k1 => ?_)
    · refine zk_call ml (fun r s hp => fin _ s hp.2 ?_)
      rw [eR, hp.1, show g (11 + 4 * k) = 1 from k1]
      rfl
    refine zk_e (r_of h1 ha k8 zt_0 (by decide)) ?_
    refine zk_ite (fun k3 => ?_) (fun k3 => ?_)
    · refine zk_call ml (fun r s hp => fin _ s hp.2 ?_)
      rw [eR, hp.1, show g (11 + 4 * k) = 3 from k3]
      rfl
    refine zk_e (r_of h1 ha k8 zt_0 (by decide)) ?_
    refine zk_ite (fun k5 => ?_) (fun k5 => ?_)
    · refine zk_call ml (fun r s hp => fin _ s hp.2 ?_)
      rw [eR, hp.1, show g (11 + 4 * k) = 5 from k5]
      rfl
    refine fin 0 τ h1 ?_
    rw [eR]
    obtain ⟨hk0, _⟩ := hb
    have ii := i9 (g (11 + 4 * k)) hk0.1 (by omega)
    rcases ii with c | c | c | c | c | c | c | c | c
    · exact absurd c k0
    · exact absurd c k1
    · rw [c]; rfl
    · exact absurd c k3
    · rw [c]; rfl
    · exact absurd c k5
    · exact absurd (congrArg Int32.toInt c) (by rw [zt_6]; omega)
    · exact absurd (congrArg Int32.toInt c) (by rw [zt_7]; omega)
    · exact absurd (congrArg Int32.toInt c) (by rw [zt_8]; omega)
  · have eR : sRw g k = if g (11 + 4 * k) = 4 then 2 else 0 := by unfold sRw; rw [if_neg hz]
    refine zk_e (r_of h1 ha k8 zt_0 (by decide)) ?_
    unfold B_X7_spoils_25
    refine zk_ite (fun k4 => ?_) (fun k4 => ?_)
    · exact fin 2 τ h1 (by rw [eR, if_pos (show g (11 + 4 * k) = 4 from k4)])
    · exact fin 0 τ h1 (by rw [eR, if_neg (show ¬ g (11 + 4 * k) = 4 from k4)])
theorem sPay_c {h : Nat → Int32} {F : Int32} (e2 : h 2 = g 2) (e8 : h 8 = g 8) (es : ∀ j, 11 ≤ j → h j = g j) : ∀ k, sPay h F k = sPay g F k := by
  intro k
  induction k with
  | zero => rfl
  | succ k ih =>
    show (if sShd h F (h (11 + 4 * k + 1)) = 0 then sPay h F k else sPay h F k + h (11 + 4 * k + 3)) = (if sShd g F (g (11 + 4 * k + 1)) = 0 then sPay g F k else sPay g F k + g (11 + 4 * k + 3))
    rw [sShd_c e2 e8, es _ (by omega), es (11 + 4 * k + 3) (by omega), ih]
theorem r_payNow (h1 : τ 1 = g) (o : gOK g) : zk (f_X7_payNow τ) (fun r s => τ = s ∧ r = sPay g (g 7) (g 0).toNatClampNeg) := by
  obtain ⟨hN, _⟩ := id o.1
  have e0 := zt_0
  have e1 := zt_1
  have nn := ztn hN.1
  unfold f_X7_payNow L_X7_payNow_4
  refine zl_II (fun (x1 x2 : Int32) (s : zg_S) => τ = s ∧ ∃ i : Nat, x2.toInt = i ∧ (i : Int) ≤ (g 0).toInt ∧ x1 = sPay g (g 7) i) (fun (_ x2 : Int32) (_ : zg_S) => (9 - x2.toInt).toNat) ?_ zfu _ _ _ ⟨rfl, 0, e0, by omega, rfl⟩ (by unfold zfu; omega)
  intro rec x1 x2 s hI ih
  obtain ⟨rfl, i, hi, hi2, hx⟩ := hI
  unfold B_X7_payNow_4
  rw [show τ 1 0 = g 0 from congrFun h1 0]
  refine zk_ite (fun hle => ?_) (fun hlt => ?_)
  · have gl := zle hle
    exact zk_some ⟨rfl, by rw [show (g 0).toNatClampNeg = i by omega]; exact hx⟩
  · have gl := znle hlt
    have ex := zTe (zTadd (zTs x2) (zTl zt_1) (by omega) (by omega))
    have nx7 : ∀ y : Int32, x1 + y = sPay g (g 7) (i + 1) → zk (B_X7_payNow_33 rec x2 y x1 τ) (fun r s => τ = s ∧ r = sPay g (g 7) (g 0).toNatClampNeg) := fun y hy => by
      unfold B_X7_payNow_33
      exact ih _ (x2 + 1) τ ⟨rfl, i + 1, by rw [ex, hi]; rfl, by omega, hy⟩ (by show (9 - (x2 + 1).toInt).toNat < (9 - x2.toInt).toNat; rw [ex]; omega)
    have eP : sPay g (g 7) (i + 1) = if sShd g (g 7) (g (11 + 4 * i + 1)) = 0 then sPay g (g 7) i else sPay g (g 7) i + g (11 + 4 * i + 3) := rfl
    refine zk_e (r_shaded h1 o hi (by omega)) ?_
    refine zk_ite (fun hd => ?_) (fun hd => ?_)
    · exact nx7 0 (by rw [eP, if_pos hd, hx]; exact Int32.add_zero _)
    · refine zk_e (r_of h1 hi (by omega) zt_3 (by decide)) ?_
      exact nx7 _ (by rw [eP, if_neg hd, hx])
def sBv (mv : Int32) : Int32 := if mv = 0 then 0 else if mv = 1 then -1 else 1
theorem sTo_r (hB : gB g) (mv : Int32) (hm : mv = 0 ∨ mv = 1 ∨ mv = 2) : sHeld (g 7 + sBv mv) 0 (12 - g 8) = sTo g mv := by
  obtain ⟨_, _, h8, h7, _, _⟩ := id hB
  have e0 := zt_0
  have e1 := zt_1
  have em := zt_m1
  have e12 := g12 hB
  have ii : ∀ a b : Int32, a.toInt = b.toInt → a = b := fun a b h => Int32.toInt_inj.mp h
  rcases hm with rfl | rfl | rfl
  · show sHeld (g 7 + 0) 0 (12 - g 8) = g 7
    rw [Int32.add_zero, sHeld_lo (nlt_i (by omega))]
    by_cases f : (0 : Int32) < g 7
    · rw [if_pos f]
    · rw [if_neg f]
      have := znlt f
      exact ii _ _ (by omega)
  · show sHeld (g 7 + (-1)) 0 (12 - g 8) = if (g 7 - 1) < 0 then 0 else g 7 - 1
    have a := zTe (zTsub (zTs (g 7)) (zTl zt_1) (by omega) (by omega))
    have b := zTe (zTadd (zTs (g 7)) (zTl zt_m1) (by omega) (by omega))
    generalize g 7 + (-1) = u at b ⊢
    generalize g 7 - 1 = v at a ⊢
    generalize 12 - g 8 = w at e12 ⊢
    rw [sHeld_lo (nlt_i (by omega))]
    by_cases f : (0 : Int32) < u
    · rw [if_pos f]
      have := zlt f
      rw [if_neg (nlt_i (by omega))]
      exact ii _ _ (by omega)
    · rw [if_neg f]
      have := znlt f
      by_cases d : v < 0
      · rw [if_pos d]
      · rw [if_neg d]
        have := znlt d
        exact ii _ _ (by omega)
  · show sHeld (g 7 + 1) 0 (12 - g 8) = if 12 - g 8 < g 7 + 1 then 12 - g 8 else g 7 + 1
    have b := zTe (zTadd (zTs (g 7)) (zTl zt_1) (by omega) (by omega))
    generalize g 7 + 1 = u at b ⊢
    generalize 12 - g 8 = w at e12 ⊢
    by_cases d : w < u
    · rw [sHeld_hi d, if_pos d]
      by_cases f : (0 : Int32) < w
      · rw [if_pos f]
      · have := znlt f
        omega
    · rw [sHeld_lo d, if_neg d]
      by_cases f : (0 : Int32) < u
      · rw [if_pos f]
      · have := znlt f
        omega
theorem r_holds (h1 : τ 1 = g) (h8 : 1 ≤ (g 8).toInt ∧ (g 8).toInt ≤ 6) : f_X7_holds τ = some (0, zg_up τ 1 7 (sHeld (g 7) 0 (12 - g 8))) := by
  have e12 := zt_12
  have e := zTe (zTsub (zTl zt_12) (zTs (g 8)) (by omega) (by omega))
  unfold f_X7_holds
  rw [h1, r_within _ _ _ (by rw [e]; omega)]
  rfl
theorem r_payIf (h1 : τ 1 = g) (o : gOK g) (mv : Int32) (hm : mv = 0 ∨ mv = 1 ∨ mv = 2) : zk (f_X7_payIf (sBv mv) τ) (fun r s => r = sPy g mv ∧ s 1 = g ∧ ∀ p, p ≠ 1 → s p = τ p) := by
  obtain ⟨_, _, h8, _⟩ := id o.1
  unfold f_X7_payIf
  rw [h1]
  refine zk_let (fun s1 q1 => ?_)
  have r1 : s1 1 = upd g 7 (g 7 + sBv mv) := by rw [q1, ← h1]; exact zg_row_eq
  have f1 : ∀ p, p ≠ 1 → s1 p = τ p := fun p hp => by rw [q1]; exact zg_row_ne hp
  have hh := r_holds r1 (by rw [pk_un (by decide)]; exact h8)
  rw [pk_us, pk_un (by decide), sTo_r o.1 mv hm] at hh
  refine zk_e hh ?_
  have r2 : zg_up s1 1 7 (sTo g mv) 1 = upd g 7 (sTo g mv) := by
    refine zg_row_eq.trans ?_
    rw [r1, upd_upd]
  have o2 := o.first (sTo_b o.1 mv)
  refine zk_call (r_payNow r2 o2) (fun r s hp => ?_)
  obtain ⟨rfl, hr⟩ := hp
  refine zk_let (fun s3 q3 => ?_)
  refine zk_some ⟨?_, ?_, fun p hp => ?_⟩
  · rw [hr, pk_us, pk_un (by decide)]
    exact sPay_c (pk_un (by decide)) (pk_un (by decide)) (fun j hj => pk_un (by omega)) _
  · rw [q3]
    refine zg_row_eq.trans ?_
    rw [r2, upd_upd]
    exact upd_self rfl
  · rw [q3]
    exact (zg_row_ne hp).trans ((zg_row_ne hp).trans (f1 p hp))
end
end
section
theorem sLo_b {g : Nat → Int32} {k : Nat} (o : gOK g) (hk : (k : Int) < (g 0).toInt) : 0 ≤ (sLo g k).toInt := by
  have h := sLs_b o.1 (o.2.1 k hk)
  have e0 := zt_0
  unfold sLo
  by_cases c : sShd g (g 7) (g (11 + 4 * k + 1)) = 0
  · rw [if_pos c]; omega
  · rw [if_neg c]; omega
theorem sBL_s {g : Nat → Int32} {k : Nat} : sBL g (k + 1) = if sLo g k ≤ (sBL g k).2 then sBL g k else (sDir g k, sLo g k) := rfl
section
variable {τ : zg_S} {g : Nat → Int32}
theorem r_hauls1 (h1 : τ 1 = g) (o : gOK g) (hV : tvs g) : zk (L_X7_hauls_67 zfu (-1) 0 τ) (fun r s => r = sBv (sBL g (g 0).toNatClampNeg).1 ∧ s 1 = g) := by
  obtain ⟨hN, _⟩ := id o.1
  have e0 := zt_0
  have e1 := zt_1
  have em := zt_m1
  have nn := ztn hN.1
  unfold L_X7_hauls_67
  refine zl_II (fun (x1 x2 : Int32) (s : zg_S) => s 1 = g ∧ ∃ i : Nat, x2.toInt = i ∧ (i : Int) ≤ (g 0).toInt ∧ ((x1 = -1 ∧ sBL g i = (0, 0)) ∨ (∃ w : Nat, (w : Int) < (g 0).toInt ∧ x1.toInt = w ∧ sShd g (g 7) (g (11 + 4 * w + 1)) = 0 ∧ sBL g i = (sDir g w, sLs g w) ∧ 0 < (sLs g w).toInt))) (fun (_ x2 : Int32) (_ : zg_S) => (9 - x2.toInt).toNat) ?_ zfu _ _ _ ⟨h1, 0, e0, by omega, Or.inl ⟨rfl, rfl⟩⟩ (by unfold zfu; omega)
  intro rec x1 x2 s hI ih
  obtain ⟨hs, i, hi, hi2, hx⟩ := hI
  unfold B_X7_hauls_67
  rw [show s 1 0 = g 0 from congrFun hs 0]
  refine zk_ite (fun hle => ?_) (fun hlt => ?_)
  · have gl := zle hle
    rw [show (g 0).toNatClampNeg = i by omega]
    rcases hx with ⟨hx, hB⟩ | ⟨w, hw, hx, _, hB, _⟩
    · refine zk_ite (fun z => absurd z (by rw [hx]; decide)) (fun _ => ?_)
      exact zk_some ⟨by rw [hB]; rfl, hs⟩
    · refine zk_ite (fun _ => ?_) (fun z => absurd (Int32.le_iff_toInt_le.mpr (by omega)) z)
      refine zk_e (r_of hs hx (by omega) zt_1 (by decide)) ?_
      refine zk_e (r_shadeFrom hs) ?_
      rw [hB]
      refine zk_ite (fun hd => ?_) (fun hd => ?_)
      · refine zk_some ⟨?_, hs⟩
        show 1 = sBv (sDir g w)
        unfold sDir
        rw [if_pos hd]
        rfl
      · refine zk_some ⟨?_, hs⟩
        show -1 = sBv (sDir g w)
        unfold sDir
        rw [if_neg hd]
        rfl
  · have gl := znle hlt
    have hk : (i : Int) < (g 0).toInt := by omega
    have ex := zTe (zTadd (zTs x2) (zTl zt_1) (by omega) (by omega))
    have hl := sLs_b o.1 (o.2.1 i hk)
    have nx7 : ∀ (y : Int32) (t : zg_S), t 1 = g → ((y = -1 ∧ sBL g (i + 1) = (0, 0)) ∨ (∃ w : Nat, (w : Int) < (g 0).toInt ∧ y.toInt = w ∧ sShd g (g 7) (g (11 + 4 * w + 1)) = 0 ∧ sBL g (i + 1) = (sDir g w, sLs g w) ∧ 0 < (sLs g w).toInt)) → zk (B_X7_hauls_125 rec x2 y t) (fun r s => r = sBv (sBL g (g 0).toNatClampNeg).1 ∧ s 1 = g) := fun y t ht hy => by
      unfold B_X7_hauls_125
      exact ih y (x2 + 1) t ⟨ht, i + 1, by rw [ex, hi]; rfl, by omega, hy⟩ (by show (9 - (x2 + 1).toInt).toNat < (9 - x2.toInt).toNat; rw [ex]; omega)
    -- nothing changes
    have keep : ∀ t : zg_S, t 1 = g → sLo g i ≤ (sBL g i).2 → zk (B_X7_hauls_124 rec x1 x2 t) (fun r s => r = sBv (sBL g (g 0).toNatClampNeg).1 ∧ s 1 = g) := fun t ht hle => by
      unfold B_X7_hauls_124
      refine nx7 x1 t ht ?_
      rw [sBL_s, if_pos hle]
      exact hx
    have hb2 : 0 ≤ (sBL g i).2.toInt := by
      rcases hx with ⟨_, hB⟩ | ⟨w, _, _, _, hB, hp⟩
      · rw [hB]; exact Int.le_of_eq e0.symm
      · rw [hB]; show 0 ≤ (sLs g w).toInt; omega
    have take : ∀ t : zg_S, t 1 = g → sShd g (g 7) (g (11 + 4 * i + 1)) = 0 → 0 < (sLs g i).toInt → ¬ sLo g i ≤ (sBL g i).2 → zk (B_X7_hauls_120 rec x2 t) (fun r s => r = sBv (sBL g (g 0).toNatClampNeg).1 ∧ s 1 = g) := fun t ht hz hp hle => by
      unfold B_X7_hauls_120
      refine nx7 x2 t ht (Or.inr ⟨i, hk, hi, hz, ?_, hp⟩)
      rw [sBL_s, if_neg hle]
      unfold sLo
      rw [if_pos hz]
    refine zk_e (r_shaded hs o hi hk) ?_
    refine zk_ite (fun hz => ?_) (fun hz => ?_)
    · have eL : sLo g i = sLs g i := by unfold sLo; rw [if_pos hz]
      refine zk_call (r_spoils hs o hV hi hk) (fun r t hp => ?_)
      obtain ⟨hr, ht⟩ := hp
      subst hr
      refine zk_ite (fun hle => ?_) (fun hlt => ?_)
      · have g1 := zle hle
        unfold B_X7_hauls_97 B_X7_hauls_98
        refine zk_ite (fun _ => keep t ht (Int32.le_iff_toInt_le.mpr (by rw [eL]; omega))) (fun z => absurd rfl z)
      · have g1 := znle hlt
        unfold B_X7_hauls_98
        refine zk_ite (fun z => absurd z (by decide)) (fun _ => ?_)
        rcases hx with ⟨hx, hB⟩ | ⟨w, hw, hx, hwz, hB, hwp⟩
        · refine zk_ite (fun _ => take t ht hz (by omega) (fun z => ?_)) (fun z => absurd (show x1 < 0 by rw [hx]; decide) z)
          have := zle z
          rw [eL, hB] at this
          have e00 : ((0 : Int32), (0 : Int32)).2.toInt = 0 := e0
          omega
        · refine zk_ite (fun z => absurd (zlt z) (by omega)) (fun _ => ?_)
          refine zk_call (r_spoils ht o hV hi hk) (fun r u hp => ?_)
          obtain ⟨hr, hu⟩ := hp
          subst hr
          refine zk_call (r_spoils hu o hV hx hw) (fun r v hp => ?_)
          obtain ⟨hr, hv⟩ := hp
          subst hr
          refine zk_ite (fun hle => ?_) (fun hlt => ?_)
          · exact keep v hv (by rw [eL, hB]; exact hle)
          · exact take v hv hz (by omega) (by rw [eL, hB]; exact hlt)
    · have eL : sLo g i = 0 := by unfold sLo; rw [if_neg hz]
      unfold B_X7_hauls_97 B_X7_hauls_98
      exact zk_ite (fun _ => keep s hs (Int32.le_iff_toInt_le.mpr (by rw [eL]; omega))) (fun z => absurd rfl z)
theorem r_hauls (h1 : τ 1 = g) (o : gOK g) (hV : tvs g) : zk (f_X7_hauls τ) (fun r s => r = sBv (sHl g) ∧ s 1 = g) := by
  obtain ⟨_, _, _, _, _, hm⟩ := id o.1
  unfold f_X7_hauls sHl
  rw [show τ 1 10 = g 10 from congrFun h1 10]
  refine zk_ite (fun c0 => ?_) (fun c0 => ?_)
  · rw [c0]
    exact zk_some ⟨rfl, h1⟩
  · refine zk_ite (fun c2 => ?_) (fun c2 => ?_)
    · rw [c2, if_neg (by decide), if_pos rfl]
      refine zk_call (r_payIf h1 o 1 (Or.inr (Or.inl rfl))) (fun r s hp => ?_)
      obtain ⟨hr, hs, _⟩ := hp
      subst hr
      refine zk_call (r_payIf hs o 0 (Or.inl rfl)) (fun r t hp => ?_)
      obtain ⟨hr, ht, _⟩ := hp
      subst hr
      have b43 : ∀ (mv : Int32) (u : zg_S), (mv = 0 ∨ mv = 1 ∨ mv = 2) → u 1 = g → sByPay g = (if sPy g 2 ≤ sPy g mv then mv else 2) → zk (B_X7_hauls_43 (sBv mv) u) (fun r s => r = sBv (sByPay g) ∧ s 1 = g) := fun mv u hmv hu hb => by
        unfold B_X7_hauls_43
        refine zk_call (r_payIf hu o 2 (Or.inr (Or.inr rfl))) (fun r v hp => ?_)
        obtain ⟨hr, hv, _⟩ := hp
        subst hr
        refine zk_call (r_payIf hv o mv hmv) (fun r w hp => ?_)
        obtain ⟨hr, hw, _⟩ := hp
        subst hr
        refine zk_ite (fun hle => ?_) (fun hlt => ?_)
        · exact zk_some ⟨by rw [hb, if_pos hle], hw⟩
        · exact zk_some ⟨by rw [hb, if_neg hlt]; rfl, hw⟩
      refine zk_ite (fun hle => ?_) (fun hlt => ?_)
      · exact b43 0 t (Or.inl rfl) ht (by unfold sByPay; rw [if_pos hle, if_pos hle])
      · exact b43 1 t (Or.inr (Or.inl rfl)) ht (by unfold sByPay; rw [if_neg hlt, if_neg hlt])
    · have c1 : g 10 = 1 := by
        rcases i9 (g 10) hm.1 (by omega) with c | c | c | c | c | c | c | c | c
        · exact absurd c c0
        · exact c
        · exact absurd c c2
        · exact absurd (congrArg Int32.toInt c) (by rw [zt_3]; omega)
        · exact absurd (congrArg Int32.toInt c) (by rw [zt_4]; omega)
        · exact absurd (congrArg Int32.toInt c) (by rw [zt_5]; omega)
        · exact absurd (congrArg Int32.toInt c) (by rw [zt_6]; omega)
        · exact absurd (congrArg Int32.toInt c) (by rw [zt_7]; omega)
        · exact absurd (congrArg Int32.toInt c) (by rw [zt_8]; omega)
      rw [if_pos c1]
      exact r_hauls1 h1 o hV
theorem sHl_m (g : Nat → Int32) : sHl g = 0 ∨ sHl g = 1 ∨ sHl g = 2 := by
  unfold sHl
  by_cases c : g 10 = 1
  · rw [if_pos c]
    have hb : ∀ k, (sBL g k).1 = 0 ∨ (sBL g k).1 = 1 ∨ (sBL g k).1 = 2 := by
      intro k
      induction k with
      | zero => exact Or.inl rfl
      | succ k ih =>
        rw [sBL_s]
        by_cases d : sLo g k ≤ (sBL g k).2
        · rw [if_pos d]; exact ih
        · rw [if_neg d]
          show sDir g k = 0 ∨ sDir g k = 1 ∨ sDir g k = 2
          unfold sDir
          by_cases f : g 7 + sO g ≤ g (11 + 4 * k + 1)
          · rw [if_pos f]; exact Or.inr (Or.inr rfl)
          · rw [if_neg f]; exact Or.inr (Or.inl rfl)
    exact hb _
  · rw [if_neg c]
    by_cases d : g 10 = 2
    · rw [if_pos d]
      unfold sByPay
      by_cases f : sPy g 2 ≤ (if sPy g 1 ≤ sPy g 0 then sPy g 0 else sPy g 1)
      · rw [if_pos f]
        by_cases f' : sPy g 1 ≤ sPy g 0
        · rw [if_pos f']; exact Or.inl rfl
        · rw [if_neg f']; exact Or.inr (Or.inl rfl)
      · rw [if_neg f]; exact Or.inr (Or.inr rfl)
    · rw [if_neg d]; exact Or.inl rfl
theorem r_drawn (h1 : τ 1 = g) : f_X7_drawn τ = some (sD (sZ (g 6)), zg_up τ 1 6 (sZ (g 6))) := by
  unfold f_X7_drawn
  rw [h1]
  show some ((Int32.toUInt32 (zg_up τ 1 6 (sZ (g 6)) 1 6) >>> (Int32.toUInt32 8 &&& Int32.toUInt32 31)).toInt32, zg_up τ 1 6 (sZ (g 6))) = _
  rw [zgot]
  rfl
theorem up_row {k : Nat} {v : Int32} (h1 : τ 1 = g) : zg_up τ 1 k v 1 = upd g k v := by
  refine zg_row_eq.trans ?_
  rw [h1]
theorem r_sets {a1 a2 v : Int32} {k j : Nat} (h1 : τ 1 = g) (ha : a1.toInt = k) (hk : k ≤ 8) (hj : a2.toInt = j) (hj2 : j ≤ 3) : f_X7_sets a1 a2 v τ = some (0, zg_up τ 1 (11 + 4 * k + j) v) := by
  have e11 := zt_11
  have e4 := zt_4
  have p := zTadd (zTadd (zTl zt_11) (zTmul (zTl zt_4) (zTs a1) (by omega) (by omega)) (by omega) (by omega)) (zTs a2) (by omega) (by omega)
  unfold f_X7_sets
  rw [if_pos (zin_mkT p (by omega) (by omega)), zTn p (show (11 + 4 * a1.toInt + a2.toInt : Int) = ((11 + 4 * k + j : Nat) : Int) by omega)]
  rfl
theorem zin3 : zin 3 3047 = true := by decide
theorem zin5 : zin 5 3047 = true := by decide
theorem r_goesOnBy (h1 : τ 1 = g) (o : gOK g) (hV : tvs g) (mv : Int32) (hm : mv = 0 ∨ mv = 1 ∨ mv = 2) : zk (f_X7_goesOnBy (sBv mv) τ) (fun _ s => s 1 = sHr g (sTo g mv)) := by
  obtain ⟨hN, _, h8, _⟩ := id o.1
  have e0 := zt_0
  have e1 := zt_1
  have nn := ztn hN.1
  unfold f_X7_goesOnBy
  rw [h1]
  refine zk_let (fun s0 q0 => ?_)
  have r0 : s0 1 = upd g 7 (g 7 + sBv mv) := by rw [q0]; exact up_row h1
  have hh := r_holds r0 (by rw [pk_un (by decide)]; exact h8)
  rw [pk_us, pk_un (by decide), sTo_r o.1 mv hm] at hh
  refine zk_e hh ?_
  have r1 : zg_up s0 1 7 (sTo g mv) 1 = upd g 7 (sTo g mv) := by rw [up_row r0, upd_upd]
  have o1 := o.first (sTo_b o.1 mv)
  have V1 : tvs (upd g 7 (sTo g mv)) := hV.st (STx.rf.up (by decide) (by decide))
  have g10 : upd g 7 (sTo g mv) 0 = g 0 := pk_un (by decide)
  unfold sHr
  generalize zg_up s0 1 7 (sTo g mv) = s1 at r1 ⊢
  generalize upd g 7 (sTo g mv) = g1 at r1 o1 V1 g10 ⊢
  unfold L_X7_goesOnBy_17
  refine zl_I (fun (x2 : Int32) (s : zg_S) => ∃ i : Nat, x2.toInt = i ∧ (i : Int) ≤ (g 0).toInt ∧ s 1 = sLp g1 i) (fun (x2 : Int32) (_ : zg_S) => (9 - x2.toInt).toNat) ?_ zfu _ _ ⟨0, e0, by omega, r1⟩ (by unfold zfu; omega)
  intro rec x2 s hI ih
  obtain ⟨i, hi, hi2, hs⟩ := hI
  have hgi : sLp g1 i 0 = g 0 := (sLp_c (by decide) (by decide) (by decide) i (by omega)).trans g10
  have oi : gOK (sLp g1 i) := sLp_ok o1 i (by rw [g10]; exact hi2)
  have Vi : tvs (sLp g1 i) := V1.st ⟨sLp_c (by decide) (by decide) (by decide) i (by omega), fun j hj => sLp_c (by omega) (by omega) (by omega) i (by omega)⟩
  unfold B_X7_goesOnBy_17
  rw [show s 1 0 = g 0 from (congrFun hs 0).trans hgi]
  refine zk_ite (fun hle => ?_) (fun hlt => ?_)
  · have gl := zle hle
    rw [show (g 0).toNatClampNeg = i by omega]
    generalize sLp g1 i = w at hs oi ⊢
    refine zk_e (r_drawn hs) ?_
    have d1 : zg_up s 1 6 (sZ (w 6)) 1 = upd w 6 (sZ (w 6)) := up_row hs
    rw [show zg_up s 1 6 (sZ (w 6)) 1 9 = w 9 by rw [d1]; exact pk_un (by decide)]
    have b149 : ∀ (t : zg_S), t 1 = sBl w → zk (B_X7_goesOnBy_149 (sBv mv) t) (fun _ s => s 1 = upd (sBl w) 2 (sBl w 2 + 1)) := fun t ht => by
      unfold B_X7_goesOnBy_149
      refine zk_let (fun u q => zk_some ?_)
      rw [q, up_row ht, ht]
    refine zk_ite (fun hc => ?_) (fun hc => ?_)
    · refine b149 _ ?_
      rw [d1]
      unfold sBl
      rw [if_neg (nlt_i (zle hc))]
    · have hc' : sD (sZ (w 6)) - sD (sZ (w 6)) / 100 * 100 < w 9 := lt_i (znle hc)
      have dd := r_drawn d1
      rw [pk_us] at dd
      refine zk_e dd ?_
      have d2 : zg_up (zg_up s 1 6 (sZ (w 6))) 1 6 (sZ (sZ (w 6))) 1 = upd w 6 (sZ (sZ (w 6))) := by rw [up_row d1, upd_upd]
      generalize zg_up (zg_up s 1 6 (sZ (w 6))) 1 6 (sZ (sZ (w 6))) = t2 at d2 ⊢
      refine zk_let (fun y ey => ?_)
      refine zk_let (fun t3 q3 => ?_)
      have ey' : y = w 7 + sBy3 (sZ (sZ (w 6))) := by rw [ey, d2, pk_un (by decide)]; rfl
      have d3 : t3 1 = upd (upd w 6 (sZ (sZ (w 6)))) 7 y := by rw [q3]; exact up_row d2
      have h3 := r_holds d3 (by rw [pk_un (by decide), pk_un (by decide)]; exact oi.1.2.2.1)
      rw [pk_us, pk_un (by decide), pk_un (by decide), ey'] at h3
      refine zk_e h3 ?_
      have d4 : zg_up t3 1 7 (sHeld (w 7 + sBy3 (sZ (sZ (w 6)))) 0 (12 - w 8)) 1 = upd (upd w 6 (sZ (sZ (w 6)))) 7 (sHeld (w 7 + sBy3 (sZ (sZ (w 6)))) 0 (12 - w 8)) := by rw [up_row d3, upd_upd]
      generalize zg_up t3 1 7 (sHeld (w 7 + sBy3 (sZ (sZ (w 6)))) 0 (12 - w 8)) = t4 at d4 ⊢
      have b147 : ∀ v : Int32, v = (if sBy3 (sZ (sZ (w 6))) = 0 then 0 else 1) → zk (B_X7_goesOnBy_147 (sBv mv) v (t4 1 5) 5 t4) (fun _ s => s 1 = upd (sBl w) 2 (sBl w 2 + 1)) := fun v hv => by
        unfold B_X7_goesOnBy_147
        refine zk_in zin5 ?_
        refine zk_let (fun t5 q5 => ?_)
        refine b149 t5 ?_
        rw [q5, show Int32.toNatClampNeg 5 = 5 by decide, up_row d4, show t4 1 5 = w 5 by rw [d4, pk_un (by decide), pk_un (by decide)], hv]
        unfold sBl
        rw [if_pos hc']
      refine zk_ite (fun hz => ?_) (fun hz => ?_)
      · exact b147 0 (by rw [if_pos (show sBy3 (sZ (sZ (w 6))) = 0 from hz)])
      · exact b147 1 (by rw [if_neg (show ¬ sBy3 (sZ (sZ (w 6))) = 0 from hz)])
  · have gl := znle hlt
    have hk : (i : Int) < (sLp g1 i 0).toInt := by rw [hgi]; omega
    have ex := zTe (zTadd (zTs x2) (zTl zt_1) (by omega) (by omega))
    have nx7 : ∀ t : zg_S, t 1 = sSt (sLp g1 i) i → zk (rec (x2 + 1) t) (fun _ s => s 1 = upd (sBl (sLp g1 (g 0).toNatClampNeg)) 2 (sBl (sLp g1 (g 0).toNatClampNeg) 2 + 1)) := fun t ht => ih (x2 + 1) t ⟨i + 1, by rw [ex, hi]; rfl, by omega, ht⟩ (by show (9 - (x2 + 1).toInt).toNat < (9 - x2.toInt).toNat; rw [ex]; omega)
    have k8 : i ≤ 8 := by omega
    generalize sLp g1 i = w at hs oi Vi hk nx7 hgi ⊢
    refine zk_call (r_spoils hs oi Vi hi hk) (fun r t hp => ?_)
    obtain ⟨hr, ht⟩ := hp
    subst hr
    refine zk_let (fun t1 q1 => ?_)
    rw [show t 1 4 = w 4 from congrFun ht 4] at q1
    have d1 : t1 1 = upd w 4 (w 4 + sLs w i) := by rw [q1]; exact up_row ht
    have ho := r_of (a2 := 2) d1 hi k8 zt_2 (by decide)
    rw [pk_un (by omega)] at ho
    refine zk_e ho ?_
    refine zk_e (r_sets d1 hi k8 zt_2 (by decide)) ?_
    have d2 : zg_up t1 1 (11 + 4 * i + 2) (w (11 + 4 * i + 2) - sLs w i) 1 = upd (upd w 4 (w 4 + sLs w i)) (11 + 4 * i + 2) (w (11 + 4 * i + 2) - sLs w i) := up_row d1
    generalize zg_up t1 1 (11 + 4 * i + 2) (w (11 + 4 * i + 2) - sLs w i) = t2 at d2 ⊢
    have c2 : ∀ j, j ≠ 4 → j ≠ 11 + 4 * i + 2 → upd (upd w 4 (w 4 + sLs w i)) (11 + 4 * i + 2) (w (11 + 4 * i + 2) - sLs w i) j = w j := fun j j1 j2 => by rw [pk_un j2, pk_un j1]
    obtain ⟨_, w2, w8, _⟩ := id oi.1
    have sh := r_isShaded d2 hi k8 (by rw [c2 2 (by decide) (by omega)]; exact w2.1) (by rw [c2 8 (by decide) (by omega)]; exact w8) (by rw [c2 7 (by decide) (by omega)]; exact gF oi.1)
    rw [c2 7 (by decide) (by omega), c2 (11 + 4 * i + 1) (by omega) (by omega), sShd_c (c2 2 (by decide) (by omega)) (c2 8 (by decide) (by omega))] at sh
    refine zk_e sh ?_
    have b82 : ∀ v : Int32, v = (if sShd w (w 7) (w (11 + 4 * i + 1)) = 0 then 0 else w (11 + 4 * i + 3)) → zk (B_X7_goesOnBy_82 (sBv mv) rec x2 v (t2 1 3) 3 t2) (fun _ s => s 1 = upd (sBl (sLp g1 (g 0).toNatClampNeg)) 2 (sBl (sLp g1 (g 0).toNatClampNeg) 2 + 1)) := fun v hv => by
      unfold B_X7_goesOnBy_82
      refine zk_in zin3 ?_
      refine zk_let (fun t3 q3 => ?_)
      refine nx7 t3 ?_
      rw [q3, show Int32.toNatClampNeg 3 = 3 by decide, up_row d2, show t2 1 3 = w 3 by rw [d2]; exact c2 3 (by decide) (by omega), hv]
      rfl
    refine zk_ite (fun hz => ?_) (fun hz => ?_)
    · exact b82 0 (by rw [if_pos hz])
    · have h3 := r_of (a2 := 3) d2 hi k8 zt_3 (by decide)
      rw [c2 (11 + 4 * i + 3) (by omega) (by omega)] at h3
      refine zk_e h3 ?_
      exact b82 _ (by rw [if_neg hz])
theorem r_go (h1 : τ 1 = g) (o : gOK g) (hV : tvs g) : zk (f_X7_goesOn τ) (fun _ s => s 1 = sGo g ∧ wr W_X7_goesOn τ s) := by
  refine zk_w ?_ (w_X7_goesOn τ)
  unfold f_X7_goesOn
  refine zk_call (r_hauls h1 o hV) (fun r s hp => ?_)
  obtain ⟨hr, hs⟩ := hp
  subst hr
  exact zk_call (r_goesOnBy hs o hV (sHl g) (sHl_m g)) (fun _ t ht => zk_some ht)
end
end
section
/-! BOTH SIDES: what holds between the class's picture and the reference's -/
def BZ (σ : zg_S) (p : Nat) (g : Nat → Int32) : Prop := EQB σ p g ∧ TXR σ p g ∧ gOK g ∧ gC g ∧ (g 2).toInt ≤ 9999
def R2 (σ τ : zg_S) : Prop := σ 0 12 = τ 0 3 ∧ (¬ τ 0 3 = 0 → BZ σ 177 (τ 2) ∧ (τ 2 1).toInt ≤ (τ 1 1).toInt)
def R3 (σ τ : zg_S) : Prop := σ 0 10 = τ 0 14 ∧ ∀ i : Nat, (i : Int) < (τ 0 14).toInt → σ 6 i = τ 13 i
def R4 (σ τ : zg_S) : Prop := σ 0 11 = τ 0 29 ∧ ∀ i : Nat, (i : Int) < (τ 0 29).toInt → σ 5 i = τ 17 i
def R5 (σ τ : zg_S) : Prop := ∀ k, k < 4 → σ (53 + 2 * k) 0 = τ 4 k ∧ σ (53 + 2 * k) 1 = τ 5 k ∧ (∀ i, i < 24 → σ (53 + 2 * k + 1) i = τ 6 (24 * k + i)) ∧ (τ 4 k = -1 ∨ τ 4 k = 0 ∨ τ 4 k = 1)
def sWth (kind pay : Int32) : Int32 := if kind = 1 then pay + 6 else (if kind = 2 then 99 - pay else (if kind = 3 then 2 * (pay + 6) else (if kind = 4 then (99 - pay) - 8 else (if kind = 5 then 2 else pay))))
def R6j (σ τ : zg_S) (j : Nat) : Prop := σ (61 + 4 * j) 0 = τ 7 j ∧ (τ 7 j = 0 ∨ (τ 7 j = 1 ∧ σ (61 + 4 * j + 1) 0 = τ 8 j ∧ sWth (σ (61 + 4 * j + 1) 0) (σ (61 + 4 * j + 1) 3) = τ 9 j ∧ 0 ≤ (τ 8 j).toInt ∧ (τ 8 j).toInt ≤ 5) ∨ (τ 7 j = 2 ∧ σ (61 + 4 * j + 2) 1 = τ 10 j ∧ ∀ i, i < 24 → σ (61 + 4 * j + 2 + 1) i = τ 11 (24 * j + i)) ∨ (τ 7 j = 3 ∧ σ (61 + 4 * j) 1 = τ 8 j))
def R6 (σ τ : zg_S) : Prop := ∀ j, j < 5 → R6j σ τ j
def RR (σ τ : zg_S) : Prop := BZ σ 153 (τ 1) ∧ R2 σ τ ∧ R3 σ τ ∧ R4 σ τ ∧ R5 σ τ ∧ R6 σ τ
/-! kept where nothing of theirs is written -/
theorem bz_wr {σ s : zg_S} {p : Nat} {g : Nat → Int32} (h : BZ σ p g) (hp : 53 ≤ p) (h1 : ∀ q k, p ≤ q → q ≤ p + 11 → s q k = σ q k) (h2 : ∀ q k, 11 ≤ q → q ≤ 52 → q % 3 ≠ 1 → s q k = σ q k) : BZ s p g := ⟨h.1.wr h.2.2.1.1.1.2 h1, h.2.1.wr h.2.2.1.2.2.1.2 (fun k => h1 _ k (by omega) (by omega)) h2, h.2.2⟩
theorem R2.k {σ s τ t : zg_S} (h : R2 σ τ) (a : s 0 12 = σ 0 12) (b : t 0 3 = τ 0 3) (c : t 2 = τ 2) (d : (τ 1 1).toInt ≤ (t 1 1).toInt) (e : ∀ q k, 177 ≤ q → q ≤ 188 → s q k = σ q k) (f : ∀ q k, 11 ≤ q → q ≤ 52 → q % 3 ≠ 1 → s q k = σ q k) : R2 s t := by
  refine ⟨by rw [a, b]; exact h.1, fun hn => ?_⟩
  rw [b] at hn
  obtain ⟨x, y⟩ := h.2 hn
  rw [c]
  exact ⟨bz_wr x (by decide) (fun q k h1 h2 => e q k (by omega) (by omega)) f, by omega⟩
theorem R3.k {σ s τ t : zg_S} (h : R3 σ τ) (a : s 0 10 = σ 0 10) (b : t 0 14 = τ 0 14) (c : ∀ k, s 6 k = σ 6 k) (d : ∀ k, t 13 k = τ 13 k) : R3 s t := ⟨by rw [a, b]; exact h.1, fun i hi => by rw [b] at hi; rw [c, d]; exact h.2 i hi⟩
theorem R4.k {σ s τ t : zg_S} (h : R4 σ τ) (a : s 0 11 = σ 0 11) (b : t 0 29 = τ 0 29) (c : ∀ k, s 5 k = σ 5 k) (d : ∀ k, t 17 k = τ 17 k) : R4 s t := ⟨by rw [a, b]; exact h.1, fun i hi => by rw [b] at hi; rw [c, d]; exact h.2 i hi⟩
theorem R5.k {σ s τ t : zg_S} (h : R5 σ τ) (a : ∀ q k, 53 ≤ q → q ≤ 60 → s q k = σ q k) (b : ∀ k, t 4 k = τ 4 k) (c : ∀ k, t 5 k = τ 5 k) (d : ∀ k, t 6 k = τ 6 k) : R5 s t := fun k hk => by
  obtain ⟨x, y, z, w⟩ := h k hk
  rw [b, c]
  exact ⟨(a _ _ (by omega) (by omega)).trans x, (a _ _ (by omega) (by omega)).trans y, fun i hi => by rw [d]; exact (a _ _ (by omega) (by omega)).trans (z i hi), w⟩
theorem R6j.k {σ s τ t : zg_S} {j : Nat} (h : R6j σ τ j) (a : ∀ q k, 61 + 4 * j ≤ q → q ≤ 64 + 4 * j → s q k = σ q k) (b : t 7 j = τ 7 j) (c : t 8 j = τ 8 j) (d : t 9 j = τ 9 j) (e : t 10 j = τ 10 j) (f : ∀ i, i < 24 → t 11 (24 * j + i) = τ 11 (24 * j + i)) : R6j s t j := by
  obtain ⟨x, y⟩ := h
  unfold R6j
  rw [b, c, d, e]
  refine ⟨(a _ _ (by omega) (by omega)).trans x, ?_⟩
  rcases y with y | ⟨y, y1, y2, y3⟩ | ⟨y, y1, y2⟩ | ⟨y, y1⟩
  · exact Or.inl y
  · refine Or.inr (Or.inl ⟨y, (a _ _ (by omega) (by omega)).trans y1, ?_, y3⟩)
    rw [a _ _ (by omega) (by omega), a _ 3 (by omega) (by omega)]
    exact y2
  · exact Or.inr (Or.inr (Or.inl ⟨y, (a _ _ (by omega) (by omega)).trans y1, fun i hi => by rw [f i hi]; exact (a _ _ (by omega) (by omega)).trans (y2 i hi)⟩))
  · exact Or.inr (Or.inr (Or.inr ⟨y, (a _ _ (by omega) (by omega)).trans y1⟩))
theorem R6.k {σ s τ t : zg_S} (h : R6 σ τ) (a : ∀ q k, 61 ≤ q → q ≤ 80 → s q k = σ q k) (b : ∀ p k, 7 ≤ p → p ≤ 11 → t p k = τ p k) : R6 s t := fun j hj => (h j hj).k (fun q k h1 h2 => a q k (by omega) (by omega)) (b 7 j (by decide) (by decide)) (b 8 j (by decide) (by decide)) (b 9 j (by decide) (by decide)) (b 10 j (by decide) (by decide)) (fun i _ => b 11 _ (by decide) (by decide))
/-- what lies beside the bazaar: kept -/
def sideC (p k : Nat) : Prop := (p = 0 ∧ (k = 10 ∨ k = 11 ∨ k = 12)) ∨ p = 5 ∨ p = 6 ∨ (11 ≤ p ∧ p ≤ 52 ∧ p % 3 ≠ 1) ∨ (53 ≤ p ∧ p ≤ 80) ∨ (177 ≤ p ∧ p ≤ 188)
def sideM (p k : Nat) : Prop := (p = 0 ∧ (k = 3 ∨ k = 14 ∨ k = 29)) ∨ p = 2 ∨ (4 ≤ p ∧ p ≤ 11) ∨ p = 13 ∨ p = 17
/-- only the bazaar of now, and the reference's row, have changed -/
theorem RR.now {σ s τ t : zg_S} (h : RR σ τ) (a : ∀ p k, sideC p k → s p k = σ p k) (b : ∀ p k, sideM p k → t p k = τ p k) (n : (τ 1 1).toInt ≤ (t 1 1).toInt) (hb : BZ s 153 (t 1)) : RR s t := by
  obtain ⟨_, h2, h3, h4, h5, h6⟩ := h
  refine ⟨hb, h2.k (a 0 12 (by unfold sideC; omega)) (b 0 3 (by unfold sideM; omega)) (funext (fun k => b 2 k (by unfold sideM; omega))) n (fun q k _ _ => a q k (by unfold sideC; omega)) (fun q k _ _ _ => a q k (by unfold sideC; omega)), h3.k (a 0 10 (by unfold sideC; omega)) (b 0 14 (by unfold sideM; omega)) (fun k => a 6 k (by unfold sideC; omega)) (fun k => b 13 k (by unfold sideM; omega)), h4.k (a 0 11 (by unfold sideC; omega)) (b 0 29 (by unfold sideM; omega)) (fun k => a 5 k (by unfold sideC; omega)) (fun k => b 17 k (by unfold sideM; omega)), h5.k (fun q k _ _ => a q k (by unfold sideC; omega)) (fun k => b 4 k (by unfold sideM; omega)) (fun k => b 5 k (by unfold sideM; omega)) (fun k => b 6 k (by unfold sideM; omega)), h6.k (fun q k _ _ => a q k (by unfold sideC; omega)) (fun p k _ _ => b p k (by unfold sideM; omega))⟩
/-- nothing that counts has changed -/
theorem RR.same {σ s τ t : zg_S} (h : RR σ τ) (a : ∀ p k, sideC p k → s p k = σ p k) (a2 : ∀ p k, 153 ≤ p → p ≤ 164 → s p k = σ p k) (b : ∀ p k, sideM p k → t p k = τ p k) (c : t 1 = τ 1) : RR s t := h.now a b (by rw [c]; exact Int.le_refl _) (by rw [c]; exact bz_wr h.1 (by decide) (fun q k _ _ => a2 q k (by omega) (by omega)) (fun q k _ _ _ => a q k (by unfold sideC; omega)))
/-! two walks side by side -/
def z2 (o o' : Option (Int32 × zg_S)) (P : Int32 → zg_S → Int32 → zg_S → Prop) : Prop := ∃ r s r' t, o = some (r, s) ∧ o' = some (r', t) ∧ P r s r' t
section
variable {o o' : Option (Int32 × zg_S)} {P : Int32 → zg_S → Int32 → zg_S → Prop}
theorem z2_some {r r' : Int32} {s t : zg_S} (h : P r s r' t) : z2 (some (r, s)) (some (r', t)) P := ⟨r, s, r', t, rfl, rfl, h⟩
theorem z2_cL {k : Int32 → zg_S → Option (Int32 × zg_S)} {Q : Int32 → zg_S → Prop} (h : zk o Q) (hk : ∀ r s, Q r s → z2 (k r s) o' P) : z2 (zbd o k) o' P := by
  obtain ⟨r, s, rfl, hq⟩ := h
  exact hk r s hq
theorem z2_cR {k : Int32 → zg_S → Option (Int32 × zg_S)} {Q : Int32 → zg_S → Prop} (h : zk o' Q) (hk : ∀ r s, Q r s → z2 o (k r s) P) : z2 o (zbd o' k) P := by
  obtain ⟨r, s, rfl, hq⟩ := h
  exact hk r s hq
theorem z2_eL {k : Int32 → zg_S → Option (Int32 × zg_S)} {r : Int32} {s : zg_S} {o1 : Option (Int32 × zg_S)} (h : o1 = some (r, s)) (hk : z2 (k r s) o' P) : z2 (zbd o1 k) o' P := by
  rw [h]
  exact hk
theorem z2_eR {k : Int32 → zg_S → Option (Int32 × zg_S)} {r : Int32} {s : zg_S} {o1 : Option (Int32 × zg_S)} (h : o1 = some (r, s)) (hk : z2 o (k r s) P) : z2 o (zbd o1 k) P := by
  rw [h]
  exact hk
theorem z2_iL {c : Prop} [Decidable c] {a b : Option (Int32 × zg_S)} (h1 : c → z2 a o' P) (h2 : ¬ c → z2 b o' P) : z2 (if c then a else b) o' P := by
  by_cases h : c
  · rw [if_pos h]; exact h1 h
  · rw [if_neg h]; exact h2 h
theorem z2_iR {c : Prop} [Decidable c] {a b : Option (Int32 × zg_S)} (h1 : c → z2 o a P) (h2 : ¬ c → z2 o b P) : z2 o (if c then a else b) P := by
  by_cases h : c
  · rw [if_pos h]; exact h1 h
  · rw [if_neg h]; exact h2 h
theorem z2_pL {c : Prop} [Decidable c] {a b : Option (Int32 × zg_S)} (h : c) (h1 : z2 a o' P) : z2 (if c then a else b) o' P := by rw [if_pos h]; exact h1
theorem z2_nL {c : Prop} [Decidable c] {a b : Option (Int32 × zg_S)} (h : ¬ c) (h1 : z2 b o' P) : z2 (if c then a else b) o' P := by rw [if_neg h]; exact h1
theorem z2_pR {c : Prop} [Decidable c] {a b : Option (Int32 × zg_S)} (h : c) (h1 : z2 o a P) : z2 o (if c then a else b) P := by rw [if_pos h]; exact h1
theorem z2_nR {c : Prop} [Decidable c] {a b : Option (Int32 × zg_S)} (h : ¬ c) (h1 : z2 o b P) : z2 o (if c then a else b) P := by rw [if_neg h]; exact h1
theorem z2_lL {α : Type} {a : α} {k : α → Option (Int32 × zg_S)} (h : ∀ x, x = a → z2 (k x) o' P) : z2 (zlet a k) o' P := h a rfl
theorem z2_lR {α : Type} {a : α} {k : α → Option (Int32 × zg_S)} (h : ∀ x, x = a → z2 o (k x) P) : z2 o (zlet a k) P := h a rfl
theorem z2_kk {Q Q' : Int32 → zg_S → Prop} (h : zk o Q) (h' : zk o' Q') (hp : ∀ r s r' t, Q r s → Q' r' t → P r s r' t) : z2 o o' P := by
  obtain ⟨r, s, e, q⟩ := h
  obtain ⟨r', t, e', q'⟩ := h'
  exact ⟨r, s, r', t, e, e', hp r s r' t q q'⟩
theorem z2_mono {P' : Int32 → zg_S → Int32 → zg_S → Prop} (h : z2 o o' P) (hp : ∀ r s r' t, P r s r' t → P' r s r' t) : z2 o o' P' := by
  obtain ⟨r, s, r', t, e, e', q⟩ := h
  exact ⟨r, s, r', t, e, e', hp r s r' t q⟩
theorem z2_w {W W' : Nat → Nat → Prop} {σ τ : zg_S} (h : z2 o o' P) (hw : zw W σ o) (hw' : zw W' τ o') : z2 o o' (fun r s r' t => P r s r' t ∧ wr W σ s ∧ wr W' τ t) := by
  obtain ⟨r, s, r', t, e, e', q⟩ := h
  exact ⟨r, s, r', t, e, e', q, hw r s e, hw' r' t e'⟩
end
/-- both refuse, or go on -/
def Same (σ τ : zg_S) : Int32 → zg_S → Int32 → zg_S → Prop := fun r s r' t => r = r' ∧ RR s t
theorem RR.f {σ τ : zg_S} (h : RR σ τ) (i : Nat) (hi : i < 11) : σ 153 (fm i) = τ 1 i := h.1.1.1 i hi
theorem RR.s {σ τ : zg_S} (h : RR σ τ) (k j : Nat) (hk : (k : Int) < (τ 1 0).toInt) (hj : j < 4) : σ (154 + 2 + k) j = τ 1 (11 + 4 * k + j) := h.1.1.2 k j hk hj
/-! small questions -/
theorem c_isStall1 {a : Int32} {σ : zg_S} (h : 0 ≤ a.toInt ∧ a.toInt < (σ 153 3).toInt) : f_X6_isStall a σ = some (1, σ) := by
  have e0 := zt_0
  have e1 := zt_1
  have hb := Int32.toInt_lt (σ 153 3)
  have e := zTe (zTsub (zTs (σ 153 3)) (zTl zt_1) (by omega) (by omega))
  unfold f_X6_isStall
  rw [c_within1 σ ⟨by omega, by rw [e]; omega⟩]
  rfl
theorem c_isStall0 {a : Int32} {σ : zg_S} (hN : 0 ≤ (σ 153 3).toInt) (h : ¬ (0 ≤ a.toInt ∧ a.toInt < (σ 153 3).toInt)) : f_X6_isStall a σ = some (0, σ) := by
  have e0 := zt_0
  have e1 := zt_1
  have hb := Int32.toInt_lt (σ 153 3)
  have e := zTe (zTsub (zTs (σ 153 3)) (zTl zt_1) (by omega) (by omega))
  unfold f_X6_isStall
  rw [c_within0 σ (by rw [e]; omega)]
  rfl
theorem r_isStall1 {a : Int32} {τ : zg_S} (h : 0 ≤ a.toInt ∧ a.toInt < (τ 1 0).toInt) : f_X7_isStall a τ = some (1, τ) := by
  have e0 := zt_0
  have e1 := zt_1
  have hb := Int32.toInt_lt (τ 1 0)
  have e := zTe (zTsub (zTs (τ 1 0)) (zTl zt_1) (by omega) (by omega))
  unfold f_X7_isStall
  rw [r_isIn1 τ ⟨by omega, by rw [e]; omega⟩]
  rfl
theorem r_isStall0 {a : Int32} {τ : zg_S} (hN : 0 ≤ (τ 1 0).toInt) (h : ¬ (0 ≤ a.toInt ∧ a.toInt < (τ 1 0).toInt)) : f_X7_isStall a τ = some (0, τ) := by
  have e0 := zt_0
  have e1 := zt_1
  have hb := Int32.toInt_lt (τ 1 0)
  have e := zTe (zTsub (zTs (τ 1 0)) (zTl zt_1) (by omega) (by omega))
  unfold f_X7_isStall
  rw [r_isIn0 τ (by rw [e]; omega)]
  rfl
/-- is it a stall: both say the same -/
theorem z2_stall {σ τ : zg_S} {a : Int32} {k k' : Int32 → zg_S → Option (Int32 × zg_S)} {P : Int32 → zg_S → Int32 → zg_S → Prop} (h : RR σ τ) (h0 : z2 (k 0 σ) (k' 0 τ) P) (h1 : ∀ n : Nat, a.toInt = n → (n : Int) < (τ 1 0).toInt → n ≤ 8 → z2 (k 1 σ) (k' 1 τ) P) : z2 (zbd (f_X6_isStall a σ) k) (zbd (f_X7_isStall a τ) k') P := by
  have hN := h.1.2.2.1.1.1
  have e : σ 153 3 = τ 1 0 := h.f 0 (by decide)
  by_cases c : 0 ≤ a.toInt ∧ a.toInt < (τ 1 0).toInt
  · refine z2_eL (c_isStall1 (by rw [e]; exact c)) (z2_eR (r_isStall1 c) ?_)
    exact h1 a.toInt.toNat (by omega) (by omega) (by omega)
  · exact z2_eL (c_isStall0 (by rw [e]; exact hN.1) (by rw [e]; exact c)) (z2_eR (r_isStall0 hN.1 c) h0)
/-- is it within: both say the same -/
theorem z2_within {σ τ : zg_S} {a lo hi : Int32} {k k' : Int32 → zg_S → Option (Int32 × zg_S)} {P : Int32 → zg_S → Int32 → zg_S → Prop} (h0 : ¬ (lo.toInt ≤ a.toInt ∧ a.toInt ≤ hi.toInt) → z2 (k 0 σ) (k' 0 τ) P) (h1 : lo.toInt ≤ a.toInt → a.toInt ≤ hi.toInt → z2 (k 1 σ) (k' 1 τ) P) : z2 (zbd (f_X6_within a lo hi σ) k) (zbd (f_X7_isIn (Int32.toInt64 a) (Int32.toInt64 lo) (Int32.toInt64 hi) τ) k') P := by
  by_cases c : lo.toInt ≤ a.toInt ∧ a.toInt ≤ hi.toInt
  · exact z2_eL (c_within1 σ c) (z2_eR (r_isIn1 τ c) (h1 c.1 c.2))
  · exact z2_eL (c_within0 σ c) (z2_eR (r_isIn0 τ c) (h0 c))
theorem one_ne : ¬ (1 : Int32) = 0 := by decide
end
