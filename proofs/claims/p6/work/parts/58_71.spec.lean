/-! WHAT BOTH SIDES WORK OUT, over the reference's row g: 0 N, 1 texts, 2 hour, 3 coins, 4 spoilt, 5 torn, 6 z, 7 first, 8 width, 9 gust, 10 mode, 11 + 4 k stall k, 47 + 200 t text t -/
def sT (g : Nat → Int32) : Int32 := (g 2 - g 2 / 10 * 10) - 5
def sO (g : Nat → Int32) : Int32 := sT g / 2
def sAbs (x : Int32) : Int32 := if 0 ≤ x then x else 0 - x
def sHeat (g : Nat → Int32) : Int32 := 45 - (5 * sAbs (sT g))
def sShd (g : Nat → Int32) (F pl : Int32) : Int32 := if pl < F + sO g then 0 else if (F + sO g) + g 8 ≤ pl then 0 else 1
def sHeld (a lo hi : Int32) : Int32 := if lo < (if hi < a then hi else a) then (if hi < a then hi else a) else lo
def sJn (a0 a1 a2 : Int32) : Int32 := if a0 = 38 then (if a1 = 0 then 0 else (if a2 = 0 then 0 else 1)) else (if a0 = 42 then a1 * a2 else (if a0 = 43 then a1 + a2 else (if a0 = 45 then a1 - a2 else (if a0 = 60 then (if a2 ≤ a1 then 0 else 1) else (if a0 = 61 then (if a1 = a2 then 1 else 0) else (if a0 = 62 then (if a1 ≤ a2 then 0 else 1) else (if a0 = 124 then (if a1 = 0 then (if a2 = 0 then 0 else 1) else 1) else (if a2 = 0 then 0 else a1 / a2))))))))
def sNm (key v a b c : Int32) : Int32 := if key = 0 then (if v = 104 then a else if v = 103 then b else c) else if key = 1 then (if v = 99 then a else b) else (if v = 103 then a else b)
def ev1 (key a b c w v : Int32) (st : List Int32) : List Int32 := if w = 2 then (if v = 33 then (match st with
  | x :: r => (if x = 0 then 1 else 0) :: r
  | [] => []) else (match st with
  | y :: x :: r => sJn v x y :: r
  | _ => [])) else (if w = 0 then v else sNm key v a b c) :: st
def evs (g : Nat → Int32) (b : Nat) (key x y z : Int32) : Nat → Nat → List Int32 → List Int32
  | _, 0, st => st
  | k, n + 1, st => evs g b key x y z (k + 1) n (ev1 key x y z (g (b + 2 * k)) (g (b + 2 * k + 1)) st)
def evT (g : Nat → Int32) (t : Nat) (x y z : Int32) : Int32 := (evs g (47 + 200 * t + 4) (g (47 + 200 * t)) x y z 0 (g (47 + 200 * t + 2)).toNatClampNeg []).headD 0
/-- the last text of a key among the first n; -1 -/
def sCn (g : Nat → Int32) (key : Int32) : Nat → Int32
  | 0 => -1
  | t + 1 => if g (47 + 200 * t) = key then Int32.ofNat t else sCn g key t
def sCt (g : Nat → Int32) (key : Int32) : Int32 := sCn g key (g 1).toNatClampNeg
def sPl (g : Nat → Int32) (k : Nat) : Int32 := if 0 ≤ sCt g 0 then sHeld (evT g (sCt g 0).toNatClampNeg (sHeat g) (g (11 + 4 * k + 2)) (g (11 + 4 * k + 3))) 0 (g (11 + 4 * k + 2)) else sHeat g / 5
def sSun (kind a : Int32) : Int32 := if kind = 1 then 2 * a else (if kind = 2 then 0 else (if kind = 3 then (2 * a) + 5 else (if kind = 4 then 0 else (if kind = 5 then a / 2 else a))))
def sMin (y go : Int32) : Int32 := if y < go then y else go
def sLs (g : Nat → Int32) (k : Nat) : Int32 := if g (11 + 4 * k + 2) = 0 then 0 else sMin (if sShd g (g 7) (g (11 + 4 * k + 1)) = 0 then sSun (g (11 + 4 * k)) (sPl g k) else if g (11 + 4 * k) = 4 then 2 else 0) (g (11 + 4 * k + 2))
def sSt (g : Nat → Int32) (k : Nat) : Nat → Int32 := upd (upd (upd g 4 (g 4 + sLs g k)) (11 + 4 * k + 2) (g (11 + 4 * k + 2) - sLs g k)) 3 (g 3 + if sShd g (g 7) (g (11 + 4 * k + 1)) = 0 then 0 else g (11 + 4 * k + 3))
def sLp (g : Nat → Int32) : Nat → Nat → Int32
  | 0 => g
  | k + 1 => sSt (sLp g k) k
def sZ (z : Int32) : Int32 := (z * 1103515245) + 12345
def sD (z : Int32) : Int32 := (Int32.toUInt32 z >>> (Int32.toUInt32 8 &&& Int32.toUInt32 31)).toInt32
def sBy3 (z : Int32) : Int32 := (sD z - sD z / 3 * 3) - 1
def sBl (g : Nat → Int32) : Nat → Int32 := if sD (sZ (g 6)) - sD (sZ (g 6)) / 100 * 100 < g 9 then upd (upd (upd g 6 (sZ (sZ (g 6)))) 7 (sHeld (g 7 + sBy3 (sZ (sZ (g 6)))) 0 (12 - g 8))) 5 (g 5 + if sBy3 (sZ (sZ (g 6))) = 0 then 0 else 1) else upd g 6 (sZ (g 6))
def sHr (g : Nat → Int32) (F : Int32) : Nat → Int32 := upd (sBl (sLp (upd g 7 F) (g 0).toNatClampNeg)) 2 (sBl (sLp (upd g 7 F) (g 0).toNatClampNeg) 2 + 1)
def sTo (g : Nat → Int32) (mv : Int32) : Int32 := if mv = 1 then (if (g 7 - 1) < 0 then 0 else g 7 - 1) else (if mv = 2 then (if 12 - g 8 < g 7 + 1 then 12 - g 8 else g 7 + 1) else g 7)
def sPay (g : Nat → Int32) (F : Int32) : Nat → Int32
  | 0 => 0
  | k + 1 => if sShd g F (g (11 + 4 * k + 1)) = 0 then sPay g F k else sPay g F k + g (11 + 4 * k + 3)
def sPy (g : Nat → Int32) (mv : Int32) : Int32 := sPay g (sTo g mv) (g 0).toNatClampNeg
def sByPay (g : Nat → Int32) : Int32 := if sPy g 2 ≤ (if sPy g 1 ≤ sPy g 0 then sPy g 0 else sPy g 1) then (if sPy g 1 ≤ sPy g 0 then 0 else 1) else 2
def sDir (g : Nat → Int32) (k : Nat) : Int32 := if g 7 + sO g ≤ g (11 + 4 * k + 1) then 2 else 1
def sLo (g : Nat → Int32) (k : Nat) : Int32 := if sShd g (g 7) (g (11 + 4 * k + 1)) = 0 then sLs g k else 0
def sBL (g : Nat → Int32) : Nat → Int32 × Int32
  | 0 => (0, 0)
  | k + 1 => if sLo g k ≤ (sBL g k).2 then sBL g k else (sDir g k, sLo g k)
def sHl (g : Nat → Int32) : Int32 := if g 10 = 1 then (sBL g (g 0).toNatClampNeg).1 else if g 10 = 2 then sByPay g else 0
/-- one hour -/
def sGo (g : Nat → Int32) : Nat → Int32 := sHr g (sTo g (sHl g))
def sGn (g : Nat → Int32) : Nat → Nat → Int32
  | 0 => g
  | n + 1 => sGo (sGn g n)
/-! bounds -/
def gB (g : Nat → Int32) : Prop := (0 ≤ (g 0).toInt ∧ (g 0).toInt ≤ 9) ∧ (0 ≤ (g 2).toInt ∧ (g 2).toInt ≤ 20000) ∧ (1 ≤ (g 8).toInt ∧ (g 8).toInt ≤ 6) ∧ (0 ≤ (g 7).toInt ∧ (g 7).toInt ≤ 12 - (g 8).toInt) ∧ (0 ≤ (g 9).toInt ∧ (g 9).toInt ≤ 100) ∧ (0 ≤ (g 10).toInt ∧ (g 10).toInt ≤ 2)
/-- coins, spoilt, torn by the hours that went by -/
def gC (g : Nat → Int32) : Prop := (0 ≤ (g 3).toInt ∧ (g 3).toInt ≤ 891 * (g 2).toInt) ∧ (0 ≤ (g 4).toInt ∧ (g 4).toInt ≤ 8991 * (g 2).toInt) ∧ (0 ≤ (g 5).toInt ∧ (g 5).toInt ≤ (g 2).toInt)
def gSb (g : Nat → Int32) (k : Nat) : Prop := (0 ≤ (g (11 + 4 * k)).toInt ∧ (g (11 + 4 * k)).toInt ≤ 5) ∧ (0 ≤ (g (11 + 4 * k + 1)).toInt ∧ (g (11 + 4 * k + 1)).toInt ≤ 11) ∧ (0 ≤ (g (11 + 4 * k + 2)).toInt ∧ (g (11 + 4 * k + 2)).toInt ≤ 999) ∧ (0 ≤ (g (11 + 4 * k + 3)).toInt ∧ (g (11 + 4 * k + 3)).toInt ≤ 99)
def gSs (g : Nat → Int32) : Prop := ∀ k : Nat, (k : Int) < (g 0).toInt → gSb g k
/-! arithmetic -/
theorem zdivn (x c : Int32) (n : Int) (hc : c.toInt = n) (hn : 1 ≤ n) (h : 0 ≤ x.toInt) : (x / c).toInt = x.toInt / n := by
  have hb : x.toInt < 2147483648 := Int32.toInt_lt x
  have e : x.toInt.tdiv n = x.toInt / n := Int.tdiv_eq_ediv_of_nonneg h
  have h1 : 0 ≤ x.toInt / n := Int.ediv_nonneg h (by omega)
  have h2 : x.toInt / n ≤ x.toInt := Int.ediv_le_self _ h
  rw [Int32.toInt_div, hc, e]
  exact Int.bmod_eq_of_le (by omega) (by omega)
theorem zrem (x c : Int32) (n : Int) (hc : c.toInt = n) (hn : 1 ≤ n) (hn2 : n ≤ 1000) (h : 0 ≤ x.toInt) : (x - x / c * c).toInt = x.toInt % n := by
  have hb : x.toInt < 2147483648 := Int32.toInt_lt x
  have e := zdivn x c n hc hn h
  have h1 : 0 ≤ x.toInt / n := Int.ediv_nonneg h (by omega)
  have h3 : n * (x.toInt / n) + x.toInt % n = x.toInt := Int.mul_ediv_add_emod x.toInt n
  have h4 : 0 ≤ x.toInt % n := Int.emod_nonneg _ (by omega)
  have h6 : 0 ≤ n * (x.toInt / n) := Int.mul_nonneg (by omega) h1
  have em : (x / c * c).toInt = x.toInt / n * n := by
    rw [Int32.toInt_mul, e, hc]
    have h5 : x.toInt / n * n = n * (x.toInt / n) := Int.mul_comm _ _
    exact Int.bmod_eq_of_le (by omega) (by omega)
  rw [zsub _ _ (by rw [em, Int.mul_comm]; omega) (by rw [em, Int.mul_comm]; omega), em, Int.mul_comm]
  omega
theorem zt_10 : (10 : Int32).toInt = 10 := by decide
theorem sT_b {g : Nat → Int32} (h : 0 ≤ (g 2).toInt) : (sT g).toInt = (g 2).toInt % 10 - 5 := by
  have e5 := zt_5
  have e := zrem (g 2) 10 10 zt_10 (by decide) (by decide) h
  unfold sT
  rw [zsub _ _ (by omega) (by omega), e, e5]
theorem sO_b {g : Nat → Int32} (h : 0 ≤ (g 2).toInt) : -2 ≤ (sO g).toInt ∧ (sO g).toInt ≤ 2 := by
  have e := sT_b h
  have h1 : (-5 : Int) ≤ (sT g).toInt := by omega
  have h2 : (sT g).toInt ≤ 4 := by omega
  unfold sO
  have hc : (sT g).toInt = -5 ∨ (sT g).toInt = -4 ∨ (sT g).toInt = -3 ∨ (sT g).toInt = -2 ∨ (sT g).toInt = -1 ∨ (sT g).toInt = 0 ∨ (sT g).toInt = 1 ∨ (sT g).toInt = 2 ∨ (sT g).toInt = 3 ∨ (sT g).toInt = 4 := by omega
  have k : ∀ n : Int32, (sT g).toInt = n.toInt → sT g = n := fun n h => Int32.toInt_inj.mp h
  rcases hc with c | c | c | c | c | c | c | c | c | c
  · rw [k (-5) (c.trans (by decide))]; decide
  · rw [k (-4) (c.trans (by decide))]; decide
  · rw [k (-3) (c.trans (by decide))]; decide
  · rw [k (-2) (c.trans (by decide))]; decide
  · rw [k (-1) (c.trans (by decide))]; decide
  · rw [k 0 (c.trans (by decide))]; decide
  · rw [k 1 (c.trans (by decide))]; decide
  · rw [k 2 (c.trans (by decide))]; decide
  · rw [k 3 (c.trans (by decide))]; decide
  · rw [k 4 (c.trans (by decide))]; decide
theorem sAbs_b {x : Int32} (h1 : -5 ≤ x.toInt) (h2 : x.toInt ≤ 4) : 0 ≤ (sAbs x).toInt ∧ (sAbs x).toInt ≤ 5 := by
  have e0 := zt_0
  unfold sAbs
  by_cases c : 0 ≤ x
  · rw [if_pos c]
    have := zle c
    omega
  · rw [if_neg c]
    have := znle c
    rw [zsub _ _ (by omega) (by omega)]
    omega
theorem sHeat_b {g : Nat → Int32} (h : 0 ≤ (g 2).toInt) : 20 ≤ (sHeat g).toInt ∧ (sHeat g).toInt ≤ 45 := by
  have e := sT_b h
  have e45 := zt_45
  have e5 := zt_5
  obtain ⟨a, b⟩ := sAbs_b (x := sT g) (by omega) (by omega)
  unfold sHeat
  have em := zTmul (zTl zt_5) (zTs (sAbs (sT g))) (by omega) (by omega)
  rw [zTe (zTsub (zTl zt_45) em (by omega) (by omega))]
  omega
theorem sShd_01 (g : Nat → Int32) (F pl : Int32) : sShd g F pl = 0 ∨ sShd g F pl = 1 := by
  unfold sShd
  by_cases c : pl < F + sO g
  · rw [if_pos c]; exact Or.inl rfl
  · rw [if_neg c]
    by_cases d : (F + sO g) + g 8 ≤ pl
    · rw [if_pos d]; exact Or.inl rfl
    · rw [if_neg d]; exact Or.inr rfl
theorem sHeld_b (a hi : Int32) (h : 0 ≤ hi.toInt) : 0 ≤ (sHeld a 0 hi).toInt ∧ (sHeld a 0 hi).toInt ≤ hi.toInt := by
  have e0 := zt_0
  unfold sHeld
  by_cases c : hi < a
  · rw [if_pos c]
    by_cases d : (0 : Int32) < hi
    · rw [if_pos d]; omega
    · rw [if_neg d]; omega
  · rw [if_neg c]
    have := znlt c
    by_cases d : (0 : Int32) < a
    · rw [if_pos d]; have := zlt d; omega
    · rw [if_neg d]; omega
theorem sPl_b {g : Nat → Int32} {k : Nat} (hg : gB g) (hs : gSb g k) : 0 ≤ (sPl g k).toInt ∧ (sPl g k).toInt ≤ 999 := by
  obtain ⟨_, h2, _⟩ := hg
  obtain ⟨_, _, h3, _⟩ := hs
  unfold sPl
  by_cases c : 0 ≤ sCt g 0
  · rw [if_pos c]
    have := sHeld_b (evT g (sCt g 0).toNatClampNeg (sHeat g) (g (11 + 4 * k + 2)) (g (11 + 4 * k + 3))) (g (11 + 4 * k + 2)) h3.1
    omega
  · rw [if_neg c]
    have := sHeat_b h2.1
    rw [zdivn _ 5 5 zt_5 (by decide) (by omega)]
    omega
theorem sSun_b {kind a : Int32} (h0 : 0 ≤ a.toInt) (h1 : a.toInt ≤ 999) : 0 ≤ (sSun kind a).toInt ∧ (sSun kind a).toInt ≤ 2003 := by
  have e0 := zt_0
  have e2 := zt_2
  have e5 := zt_5
  have em := zTmul (zTl zt_2) (zTs a) (by omega) (by omega)
  unfold sSun
  by_cases c1 : kind = 1
  · rw [if_pos c1, zTe em]; omega
  · rw [if_neg c1]
    by_cases c2 : kind = 2
    · rw [if_pos c2]; omega
    · rw [if_neg c2]
      by_cases c3 : kind = 3
      · rw [if_pos c3, zTe (zTadd em (zTl zt_5) (by omega) (by omega))]; omega
      · rw [if_neg c3]
        by_cases c4 : kind = 4
        · rw [if_pos c4]; omega
        · rw [if_neg c4]
          by_cases c5 : kind = 5
          · rw [if_pos c5, zdivn _ 2 2 zt_2 (by decide) h0]; omega
          · rw [if_neg c5]; omega
/-- what would be lost, before it is held within the goods -/
def sRw (g : Nat → Int32) (k : Nat) : Int32 := if sShd g (g 7) (g (11 + 4 * k + 1)) = 0 then sSun (g (11 + 4 * k)) (sPl g k) else if g (11 + 4 * k) = 4 then 2 else 0
theorem sRw_b {g : Nat → Int32} {k : Nat} (hg : gB g) (hs : gSb g k) : 0 ≤ (sRw g k).toInt ∧ (sRw g k).toInt ≤ 2003 := by
  have e0 := zt_0
  have e2 := zt_2
  have hp := sPl_b hg hs
  unfold sRw
  by_cases c : sShd g (g 7) (g (11 + 4 * k + 1)) = 0
  · rw [if_pos c]
    exact sSun_b hp.1 hp.2
  · rw [if_neg c]
    by_cases d : g (11 + 4 * k) = 4
    · rw [if_pos d]; omega
    · rw [if_neg d]; omega
theorem sLs_b {g : Nat → Int32} {k : Nat} (hg : gB g) (hs : gSb g k) : 0 ≤ (sLs g k).toInt ∧ (sLs g k).toInt ≤ (g (11 + 4 * k + 2)).toInt := by
  have e0 := zt_0
  have hr := sRw_b hg hs
  obtain ⟨_, _, h3, _⟩ := hs
  show 0 ≤ (if g (11 + 4 * k + 2) = 0 then 0 else sMin (sRw g k) (g (11 + 4 * k + 2))).toInt ∧ (if g (11 + 4 * k + 2) = 0 then 0 else sMin (sRw g k) (g (11 + 4 * k + 2))).toInt ≤ _
  by_cases c : g (11 + 4 * k + 2) = 0
  · rw [if_pos c]; omega
  · rw [if_neg c]
    unfold sMin
    by_cases d : sRw g k < g (11 + 4 * k + 2)
    · rw [if_pos d]; have := zlt d; omega
    · rw [if_neg d]; omega
/-- the loss as the reference holds it -/
theorem sLs_r {g : Nat → Int32} {k : Nat} (hg : gB g) (hs : gSb g k) : sLs g k = if sRw g k ≤ g (11 + 4 * k + 2) then sRw g k else g (11 + 4 * k + 2) := by
  have e0 := zt_0
  have hr := sRw_b hg hs
  obtain ⟨_, _, h3, _⟩ := hs
  show (if g (11 + 4 * k + 2) = 0 then 0 else sMin (sRw g k) (g (11 + 4 * k + 2))) = _
  have ii : ∀ a b : Int32, a.toInt = b.toInt → a = b := fun a b h => Int32.toInt_inj.mp h
  by_cases c : g (11 + 4 * k + 2) = 0
  · rw [if_pos c, c]
    by_cases d : sRw g k ≤ 0
    · rw [if_pos d]; have := zle d; exact ii _ _ (by omega)
    · rw [if_neg d]
  · rw [if_neg c]
    unfold sMin
    by_cases d : sRw g k < g (11 + 4 * k + 2)
    · rw [if_pos d, if_pos (Int32.le_iff_toInt_le.mpr (by have := zlt d; omega))]
    · rw [if_neg d]
      have := znlt d
      by_cases f : sRw g k ≤ g (11 + 4 * k + 2)
      · rw [if_pos f]; have := zle f; exact ii _ _ (by omega)
      · rw [if_neg f]
/-- the reference's way to be in shade -/
theorem sShd_r {g : Nat → Int32} {F pl : Int32} (h2 : 0 ≤ (g 2).toInt) (hw : 1 ≤ (g 8).toInt ∧ (g 8).toInt ≤ 6) (hF : -100 ≤ F.toInt ∧ F.toInt ≤ 100) : ((F + sO g).toInt ≤ pl.toInt ∧ pl.toInt ≤ (((F + sO g) + g 8) - 1).toInt) ↔ sShd g F pl = 1 := by
  have ho := sO_b h2
  have e1 := zt_1
  have ea := zTadd (zTs F) (zTs (sO g)) (by omega) (by omega)
  have eb := zTadd ea (zTs (g 8)) (by omega) (by omega)
  have ec := zTsub eb (zTl zt_1) (by omega) (by omega)
  rw [zTe ea, zTe ec]
  unfold sShd
  by_cases c : pl < F + sO g
  · rw [if_pos c]
    have := zlt c
    rw [zTe ea] at this
    exact ⟨fun h => by omega, fun h => absurd h (by decide)⟩
  · rw [if_neg c]
    have := znlt c
    rw [zTe ea] at this
    by_cases d : (F + sO g) + g 8 ≤ pl
    · rw [if_pos d]
      have := zle d
      rw [zTe eb] at this
      exact ⟨fun h => by omega, fun h => absurd h (by decide)⟩
    · rw [if_neg d]
      have := znle d
      rw [zTe eb] at this
      exact ⟨fun _ => rfl, fun _ => by omega⟩
