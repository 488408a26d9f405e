/-! what the constructors leave, as pictures -/
def x0 (fd : Nat → Nat → Int32) : zg_S := fun p => match xkd p with
  | 0 => fun k => match k with
    | 5 => 3
    | 8 => 10
    | 13 => 1
    | _ => 0
  | 2 => fun k => match k with
    | 0 => -1
    | _ => 0
  | 8 => if 81 ≤ p then fd p else fun _ => 0
  | _ => fun _ => 0
def xcA (kd : Nat → ClassId) : Nat → ClassId := fun p => if xkd p < 8 then kd 6 else kd p
def m0 (fd : Nat → Nat → Int32) : zg_S := fun p => match p with
  | 1 => fd 1
  | 4 => fd 4
  | _ => fun _ => 0
def mcA (kd : Nat → ClassId) : Nat → ClassId := fun p => match p with
  | 0 => kd 1
  | _ => kd p
theorem zrf_inj {o : Option Nat} {a : Nat} (h : va_rf o = .ref a) : o = some a := by
  cases o with
  | none => cases h
  | some b => cases h; rfl
theorem zfn_cell {cA : ClassId} {n : Nat} {f f' : Nat → Option Nat} (hf : ∀ j, j < n → f j = f' j) : vp_cell cA (n, .inr (.inr (.inr (.inr f)))) = vp_cell cA (n, .inr (.inr (.inr (.inr f')))) := by
  show arrV cA n (fun j => va_rf (f j)) = arrV cA n (fun j => va_rf (f' j))
  unfold arrV
  congr 1
  apply Array.ext
  · simp
  · intro i h1 h2
    simp at h1 ⊢
    rw [hf i h1]
section
variable {s : State} {H : Heap} {locs : List Loc} {D : va_G} {V : zz_V} {A : Nat → Prop} {WS : va_W} {TYS : List (ClassId × FieldType)}
theorem zz_S.fn {a n : Nat} {cA : ClassId} {f f' : Nat → Option Nat} (Z : zz_S D V A s WS TYS H locs) (q0 : Nat) (he : WS[q0]? = some (a, .inl (cA, n, .inr (.inr (.inr (.inr f)))))) (hf : ∀ j, j < n → f j = f' j) : zz_S D V A s (WS.set q0 (a, .inl (cA, n, .inr (.inr (.inr (.inr f')))))) TYS H locs := by
  have hq : q0 < WS.length := (List.getElem?_eq_some_iff.mp he).1
  refine ⟨?_, ?_, Z.2.2⟩
  · intro k q hk
    rw [List.getElem?_set] at hk
    by_cases e : q0 = k
    · subst e
      rw [if_pos rfl, if_pos hq] at hk
      cases hk
      have h := Z.1 q0 _ he
      show H[a]? = some (vp_cell cA (n, .inr (.inr (.inr (.inr f')))))
      have h' : H[a]? = some (vp_cell cA (n, .inr (.inr (.inr (.inr f))))) := h
      rw [h']
      exact congrArg some (zfn_cell hf)
    · rw [if_neg e] at hk
      exact Z.1 k q hk
  · refine ⟨?_, ?_⟩
    · intro i j p q hi hj hpq
      rw [List.getElem?_set] at hi hj
      by_cases e1 : q0 = i
      · by_cases e2 : q0 = j
        · exact e1.symm.trans e2
        · subst e1
          rw [if_pos rfl, if_pos hq] at hi
          rw [if_neg e2] at hj
          cases hi
          exact Z.2.1.1 q0 j _ q he hj hpq
      · rw [if_neg e1] at hi
        by_cases e2 : q0 = j
        · subst e2
          rw [if_pos rfl, if_pos hq] at hj
          cases hj
          exact Z.2.1.1 i q0 p _ hi he hpq
        · rw [if_neg e2] at hj
          exact Z.2.1.1 i j p q hi hj hpq
    · intro k q hk
      rw [List.getElem?_set] at hk
      by_cases e : q0 = k
      · subst e
        rw [if_pos rfl, if_pos hq] at hk
        cases hk
        exact Z.2.1.2 q0 (a, .inl (cA, n, .inr (.inr (.inr (.inr f))))) he
      · rw [if_neg e] at hk
        exact Z.2.1.2 k q hk
end
def ini_a (ad : Nat → Nat) (fd : Nat → Nat → Int32) (gd : Nat → Nat → Option Nat) : Prop := va_rf (gd 1 0) = .ref (ad 11) ∧ va_rf (gd 1 1) = .ref (ad 14) ∧ va_rf (gd 1 2) = .ref (ad 17) ∧ va_rf (gd 1 3) = .ref (ad 20) ∧ va_rf (gd 1 4) = .ref (ad 23) ∧ va_rf (gd 1 5) = .ref (ad 26) ∧ va_rf (gd 1 6) = .ref (ad 29) ∧ va_rf (gd 1 7) = .ref (ad 32) ∧ va_rf (gd 1 8) = .ref (ad 35) ∧ va_rf (gd 1 9) = .ref (ad 38) ∧ va_rf (gd 1 10) = .ref (ad 41) ∧ va_rf (gd 1 11) = .ref (ad 44) ∧ va_rf (gd 1 12) = .ref (ad 47) ∧ va_rf (gd 1 13) = .ref (ad 50) ∧ va_rf (gd 2 0) = .ref (ad 81) ∧ va_rf (gd 2 1) = .ref (ad 93) ∧ va_rf (gd 2 2) = .ref (ad 105) ∧ va_rf (gd 2 3) = .ref (ad 117) ∧ va_rf (gd 2 4) = .ref (ad 129) ∧ va_rf (gd 2 5) = .ref (ad 141) ∧ va_rf (gd 3 0) = .ref (ad 53) ∧ va_rf (gd 3 1) = .ref (ad 55) ∧ va_rf (gd 3 2) = .ref (ad 57) ∧ va_rf (gd 3 3) = .ref (ad 59) ∧ va_rf (gd 4 0) = .ref (ad 61) ∧ va_rf (gd 4 1) = .ref (ad 65) ∧ va_rf (gd 4 2) = .ref (ad 69) ∧ va_rf (gd 4 3) = .ref (ad 73) ∧ va_rf (gd 4 4) = .ref (ad 77) ∧ va_rf (gd 82 0) = .ref (ad 84) ∧ va_rf (gd 82 1) = .ref (ad 85) ∧ va_rf (gd 82 2) = .ref (ad 86) ∧ va_rf (gd 82 3) = .ref (ad 87) ∧ va_rf (gd 82 4) = .ref (ad 88) ∧ va_rf (gd 82 5) = .ref (ad 89) ∧ va_rf (gd 82 6) = .ref (ad 90) ∧ va_rf (gd 82 7) = .ref (ad 91) ∧ va_rf (gd 82 8) = .ref (ad 92) ∧ fd 83 0 = (-1000000005) ∧ fd 83 1 = (-1000000005) ∧ fd 83 2 = (-1000000005) ∧ va_rf (gd 94 0) = .ref (ad 96) ∧ va_rf (gd 94 1) = .ref (ad 97) ∧ va_rf (gd 94 2) = .ref (ad 98) ∧ va_rf (gd 94 3) = .ref (ad 99) ∧ va_rf (gd 94 4) = .ref (ad 100) ∧ va_rf (gd 94 5) = .ref (ad 101) ∧ va_rf (gd 94 6) = .ref (ad 102) ∧ va_rf (gd 94 7) = .ref (ad 103) ∧ va_rf (gd 94 8) = .ref (ad 104) ∧ fd 95 0 = (-1000000005) ∧ fd 95 1 = (-1000000005) ∧ fd 95 2 = (-1000000005) ∧ va_rf (gd 106 0) = .ref (ad 108) ∧ va_rf (gd 106 1) = .ref (ad 109) ∧ va_rf (gd 106 2) = .ref (ad 110) ∧ va_rf (gd 106 3) = .ref (ad 111) ∧ va_rf (gd 106 4) = .ref (ad 112) ∧ va_rf (gd 106 5) = .ref (ad 113) ∧ va_rf (gd 106 6) = .ref (ad 114) ∧ va_rf (gd 106 7) = .ref (ad 115) ∧ va_rf (gd 106 8) = .ref (ad 116) ∧ fd 107 0 = (-1000000005) ∧ fd 107 1 = (-1000000005) ∧ fd 107 2 = (-1000000005) ∧ va_rf (gd 118 0) = .ref (ad 120) ∧ va_rf (gd 118 1) = .ref (ad 121) ∧ va_rf (gd 118 2) = .ref (ad 122) ∧ va_rf (gd 118 3) = .ref (ad 123) ∧ va_rf (gd 118 4) = .ref (ad 124) ∧ va_rf (gd 118 5) = .ref (ad 125) ∧ va_rf (gd 118 6) = .ref (ad 126) ∧ va_rf (gd 118 7) = .ref (ad 127) ∧ va_rf (gd 118 8) = .ref (ad 128) ∧ fd 119 0 = (-1000000005) ∧ fd 119 1 = (-1000000005) ∧ fd 119 2 = (-1000000005) ∧ va_rf (gd 130 0) = .ref (ad 132) ∧ va_rf (gd 130 1) = .ref (ad 133) ∧ va_rf (gd 130 2) = .ref (ad 134) ∧ va_rf (gd 130 3) = .ref (ad 135) ∧ va_rf (gd 130 4) = .ref (ad 136) ∧ va_rf (gd 130 5) = .ref (ad 137) ∧ va_rf (gd 130 6) = .ref (ad 138) ∧ va_rf (gd 130 7) = .ref (ad 139) ∧ va_rf (gd 130 8) = .ref (ad 140) ∧ fd 131 0 = (-1000000005) ∧ fd 131 1 = (-1000000005) ∧ fd 131 2 = (-1000000005) ∧ va_rf (gd 142 0) = .ref (ad 144) ∧ va_rf (gd 142 1) = .ref (ad 145) ∧ va_rf (gd 142 2) = .ref (ad 146) ∧ va_rf (gd 142 3) = .ref (ad 147) ∧ va_rf (gd 142 4) = .ref (ad 148) ∧ va_rf (gd 142 5) = .ref (ad 149) ∧ va_rf (gd 142 6) = .ref (ad 150) ∧ va_rf (gd 142 7) = .ref (ad 151) ∧ va_rf (gd 142 8) = .ref (ad 152) ∧ fd 143 0 = (-1000000005) ∧ fd 143 1 = (-1000000005) ∧ fd 143 2 = (-1000000005) ∧ va_rf (gd 154 0) = .ref (ad 156) ∧ va_rf (gd 154 1) = .ref (ad 157) ∧ va_rf (gd 154 2) = .ref (ad 158) ∧ va_rf (gd 154 3) = .ref (ad 159) ∧ va_rf (gd 154 4) = .ref (ad 160) ∧ va_rf (gd 154 5) = .ref (ad 161) ∧ va_rf (gd 154 6) = .ref (ad 162) ∧ va_rf (gd 154 7) = .ref (ad 163) ∧ va_rf (gd 154 8) = .ref (ad 164) ∧ fd 155 0 = (-1000000005) ∧ fd 155 1 = (-1000000005) ∧ fd 155 2 = (-1000000005) ∧ va_rf (gd 166 0) = .ref (ad 168) ∧ va_rf (gd 166 1) = .ref (ad 169) ∧ va_rf (gd 166 2) = .ref (ad 170) ∧ va_rf (gd 166 3) = .ref (ad 171) ∧ va_rf (gd 166 4) = .ref (ad 172) ∧ va_rf (gd 166 5) = .ref (ad 173) ∧ va_rf (gd 166 6) = .ref (ad 174) ∧ va_rf (gd 166 7) = .ref (ad 175) ∧ va_rf (gd 166 8) = .ref (ad 176) ∧ fd 167 0 = (-1000000005) ∧ fd 167 1 = (-1000000005) ∧ fd 167 2 = (-1000000005) ∧ va_rf (gd 178 0) = .ref (ad 180) ∧ va_rf (gd 178 1) = .ref (ad 181) ∧ va_rf (gd 178 2) = .ref (ad 182) ∧ va_rf (gd 178 3) = .ref (ad 183) ∧ va_rf (gd 178 4) = .ref (ad 184) ∧ va_rf (gd 178 5) = .ref (ad 185) ∧ va_rf (gd 178 6) = .ref (ad 186) ∧ va_rf (gd 178 7) = .ref (ad 187) ∧ va_rf (gd 178 8) = .ref (ad 188) ∧ fd 179 0 = (-1000000005) ∧ fd 179 1 = (-1000000005) ∧ fd 179 2 = (-1000000005)
def ini1 (fd : Nat → Nat → Int32) : Prop := fd 83 0 = (-1000000005) ∧ fd 83 1 = (-1000000005) ∧ fd 83 2 = (-1000000005) ∧ fd 95 0 = (-1000000005) ∧ fd 95 1 = (-1000000005) ∧ fd 95 2 = (-1000000005) ∧ fd 107 0 = (-1000000005) ∧ fd 107 1 = (-1000000005) ∧ fd 107 2 = (-1000000005) ∧ fd 119 0 = (-1000000005) ∧ fd 119 1 = (-1000000005) ∧ fd 119 2 = (-1000000005) ∧ fd 131 0 = (-1000000005) ∧ fd 131 1 = (-1000000005) ∧ fd 131 2 = (-1000000005) ∧ fd 143 0 = (-1000000005) ∧ fd 143 1 = (-1000000005) ∧ fd 143 2 = (-1000000005) ∧ fd 155 0 = (-1000000005) ∧ fd 155 1 = (-1000000005) ∧ fd 155 2 = (-1000000005) ∧ fd 167 0 = (-1000000005) ∧ fd 167 1 = (-1000000005) ∧ fd 167 2 = (-1000000005) ∧ fd 179 0 = (-1000000005) ∧ fd 179 1 = (-1000000005) ∧ fd 179 2 = (-1000000005)
set_option maxHeartbeats 4000000 in
set_option maxRecDepth 100000 in
theorem ini_a1 {ad : Nat → Nat} {fd : Nat → Nat → Int32} {gd : Nat → Nat → Option Nat} (h : ini_a ad fd gd) : ini1 fd := by
  obtain ⟨u0, u1, u2, u3, u4, u5, u6, u7, u8, u9, u10, u11, u12, u13, u14, u15, u16, u17, u18, u19, u20, u21, u22, u23, u24, u25, u26, u27, u28, u29, u30, u31, u32, u33, u34, u35, u36, u37, u38, u39, u40, u41, u42, u43, u44, u45, u46, u47, u48, u49, u50, u51, u52, u53, u54, u55, u56, u57, u58, u59, u60, u61, u62, u63, u64, u65, u66, u67, u68, u69, u70, u71, u72, u73, u74, u75, u76, u77, u78, u79, u80, u81, u82, u83, u84, u85, u86, u87, u88, u89, u90, u91, u92, u93, u94, u95, u96, u97, u98, u99, u100, u101, u102, u103, u104, u105, u106, u107, u108, u109, u110, u111, u112, u113, u114, u115, u116, u117, u118, u119, u120, u121, u122, u123, u124, u125, u126, u127, u128, u129, u130, u131, u132, u133, u134, u135, u136⟩ := h
  exact ⟨u38, u39, u40, u50, u51, u52, u62, u63, u64, u74, u75, u76, u86, u87, u88, u98, u99, u100, u110, u111, u112, u122, u123, u124, u134, u135, u136⟩
theorem wc_0 (ad : Nat → Nat) (kd : Nat → ClassId) (fd : Nat → Nat → Int32) : zg_c XL ad (xcA kd) (x0 fd) 0 = (ad 0, .inr (6, [.ref (ad 1), .ref (ad 153), .ref (ad 165), .ref (ad 177), .ref (ad 2), .ref (ad 6), .ref (ad 7), .ref (ad 3), .ref (ad 4), .ref (ad 5), .int 0, .int 0, .int 0, .int 0, .int 0])) := rfl
theorem wc_1 (ad : Nat → Nat) (kd : Nat → ClassId) (fd : Nat → Nat → Int32) : zg_c XL ad (xcA kd) (x0 fd) 1 = (ad 1, .inl (kd 1, 14, .inr (.inr (.inr (.inr (fun j => some (ad (zg_ra 9 1 j)))))))) := rfl
theorem wc_2 (ad : Nat → Nat) (kd : Nat → ClassId) (fd : Nat → Nat → Int32) : zg_c XL ad (xcA kd) (x0 fd) 2 = (ad 2, .inl (kd 2, 6, .inr (.inr (.inr (.inr (fun j => some (ad (zg_ra 10 2 j)))))))) := rfl
theorem wc_3 (ad : Nat → Nat) (kd : Nat → ClassId) (fd : Nat → Nat → Int32) : zg_c XL ad (xcA kd) (x0 fd) 3 = (ad 3, .inl (kd 3, 4, .inr (.inr (.inr (.inr (fun j => some (ad (zg_ra 12 3 j)))))))) := rfl
theorem wc_4 (ad : Nat → Nat) (kd : Nat → ClassId) (fd : Nat → Nat → Int32) : zg_c XL ad (xcA kd) (x0 fd) 4 = (ad 4, .inl (kd 4, 5, .inr (.inr (.inr (.inr (fun j => some (ad (zg_ra 13 4 j)))))))) := rfl
theorem wc_5 (ad : Nat → Nat) (kd : Nat → ClassId) (fd : Nat → Nat → Int32) : zg_c XL ad (xcA kd) (x0 fd) 5 = (ad 5, .inl (kd 5, 60, .inl (fun _ => 0))) := rfl
theorem wc_6 (ad : Nat → Nat) (kd : Nat → ClassId) (fd : Nat → Nat → Int32) : zg_c XL ad (xcA kd) (x0 fd) 6 = (ad 6, .inl (kd 6, 96, .inl (fun _ => 0))) := rfl
theorem wc_7 (ad : Nat → Nat) (kd : Nat → ClassId) (fd : Nat → Nat → Int32) : zg_c XL ad (xcA kd) (x0 fd) 7 = (ad 7, .inr (1, [.ref (ad 6), .ref (ad 8), .int 0, .int 0, .int 0, .int 0, .int 0, .int 0])) := rfl
theorem wc_8 (ad : Nat → Nat) (kd : Nat → ClassId) (fd : Nat → Nat → Int32) : zg_c XL ad (xcA kd) (x0 fd) 8 = (ad 8, .inr (5, [.int 0, .int 0, .int 0, .ref (ad 9), .ref (ad 10)])) := rfl
theorem wc_9 (ad : Nat → Nat) (kd : Nat → ClassId) (fd : Nat → Nat → Int32) : zg_c XL ad (xcA kd) (x0 fd) 9 = (ad 9, .inl (kd 9, 96, .inl (fun _ => 0))) := rfl
theorem wc_10 (ad : Nat → Nat) (kd : Nat → ClassId) (fd : Nat → Nat → Int32) : zg_c XL ad (xcA kd) (x0 fd) 10 = (ad 10, .inl (kd 10, 96, .inl (fun _ => 0))) := rfl
theorem wc_11 (ad : Nat → Nat) (kd : Nat → ClassId) (fd : Nat → Nat → Int32) : zg_c XL ad (xcA kd) (x0 fd) 11 = (ad 11, .inr (5, [.int 0, .int 0, .int 0, .ref (ad 12), .ref (ad 13)])) := rfl
theorem wc_12 (ad : Nat → Nat) (kd : Nat → ClassId) (fd : Nat → Nat → Int32) : zg_c XL ad (xcA kd) (x0 fd) 12 = (ad 12, .inl (kd 12, 96, .inl (fun _ => 0))) := rfl
theorem wc_13 (ad : Nat → Nat) (kd : Nat → ClassId) (fd : Nat → Nat → Int32) : zg_c XL ad (xcA kd) (x0 fd) 13 = (ad 13, .inl (kd 13, 96, .inl (fun _ => 0))) := rfl
theorem wc_14 (ad : Nat → Nat) (kd : Nat → ClassId) (fd : Nat → Nat → Int32) : zg_c XL ad (xcA kd) (x0 fd) 14 = (ad 14, .inr (5, [.int 0, .int 0, .int 0, .ref (ad 15), .ref (ad 16)])) := rfl
theorem wc_15 (ad : Nat → Nat) (kd : Nat → ClassId) (fd : Nat → Nat → Int32) : zg_c XL ad (xcA kd) (x0 fd) 15 = (ad 15, .inl (kd 15, 96, .inl (fun _ => 0))) := rfl
theorem wc_16 (ad : Nat → Nat) (kd : Nat → ClassId) (fd : Nat → Nat → Int32) : zg_c XL ad (xcA kd) (x0 fd) 16 = (ad 16, .inl (kd 16, 96, .inl (fun _ => 0))) := rfl
theorem wc_17 (ad : Nat → Nat) (kd : Nat → ClassId) (fd : Nat → Nat → Int32) : zg_c XL ad (xcA kd) (x0 fd) 17 = (ad 17, .inr (5, [.int 0, .int 0, .int 0, .ref (ad 18), .ref (ad 19)])) := rfl
theorem wc_18 (ad : Nat → Nat) (kd : Nat → ClassId) (fd : Nat → Nat → Int32) : zg_c XL ad (xcA kd) (x0 fd) 18 = (ad 18, .inl (kd 18, 96, .inl (fun _ => 0))) := rfl
theorem wc_19 (ad : Nat → Nat) (kd : Nat → ClassId) (fd : Nat → Nat → Int32) : zg_c XL ad (xcA kd) (x0 fd) 19 = (ad 19, .inl (kd 19, 96, .inl (fun _ => 0))) := rfl
theorem wc_20 (ad : Nat → Nat) (kd : Nat → ClassId) (fd : Nat → Nat → Int32) : zg_c XL ad (xcA kd) (x0 fd) 20 = (ad 20, .inr (5, [.int 0, .int 0, .int 0, .ref (ad 21), .ref (ad 22)])) := rfl
theorem wc_21 (ad : Nat → Nat) (kd : Nat → ClassId) (fd : Nat → Nat → Int32) : zg_c XL ad (xcA kd) (x0 fd) 21 = (ad 21, .inl (kd 21, 96, .inl (fun _ => 0))) := rfl
theorem wc_22 (ad : Nat → Nat) (kd : Nat → ClassId) (fd : Nat → Nat → Int32) : zg_c XL ad (xcA kd) (x0 fd) 22 = (ad 22, .inl (kd 22, 96, .inl (fun _ => 0))) := rfl
theorem wc_23 (ad : Nat → Nat) (kd : Nat → ClassId) (fd : Nat → Nat → Int32) : zg_c XL ad (xcA kd) (x0 fd) 23 = (ad 23, .inr (5, [.int 0, .int 0, .int 0, .ref (ad 24), .ref (ad 25)])) := rfl
theorem wc_24 (ad : Nat → Nat) (kd : Nat → ClassId) (fd : Nat → Nat → Int32) : zg_c XL ad (xcA kd) (x0 fd) 24 = (ad 24, .inl (kd 24, 96, .inl (fun _ => 0))) := rfl
theorem wc_25 (ad : Nat → Nat) (kd : Nat → ClassId) (fd : Nat → Nat → Int32) : zg_c XL ad (xcA kd) (x0 fd) 25 = (ad 25, .inl (kd 25, 96, .inl (fun _ => 0))) := rfl
theorem wc_26 (ad : Nat → Nat) (kd : Nat → ClassId) (fd : Nat → Nat → Int32) : zg_c XL ad (xcA kd) (x0 fd) 26 = (ad 26, .inr (5, [.int 0, .int 0, .int 0, .ref (ad 27), .ref (ad 28)])) := rfl
theorem wc_27 (ad : Nat → Nat) (kd : Nat → ClassId) (fd : Nat → Nat → Int32) : zg_c XL ad (xcA kd) (x0 fd) 27 = (ad 27, .inl (kd 27, 96, .inl (fun _ => 0))) := rfl
theorem wc_28 (ad : Nat → Nat) (kd : Nat → ClassId) (fd : Nat → Nat → Int32) : zg_c XL ad (xcA kd) (x0 fd) 28 = (ad 28, .inl (kd 28, 96, .inl (fun _ => 0))) := rfl
theorem wc_29 (ad : Nat → Nat) (kd : Nat → ClassId) (fd : Nat → Nat → Int32) : zg_c XL ad (xcA kd) (x0 fd) 29 = (ad 29, .inr (5, [.int 0, .int 0, .int 0, .ref (ad 30), .ref (ad 31)])) := rfl
theorem wc_30 (ad : Nat → Nat) (kd : Nat → ClassId) (fd : Nat → Nat → Int32) : zg_c XL ad (xcA kd) (x0 fd) 30 = (ad 30, .inl (kd 30, 96, .inl (fun _ => 0))) := rfl
theorem wc_31 (ad : Nat → Nat) (kd : Nat → ClassId) (fd : Nat → Nat → Int32) : zg_c XL ad (xcA kd) (x0 fd) 31 = (ad 31, .inl (kd 31, 96, .inl (fun _ => 0))) := rfl
theorem wc_32 (ad : Nat → Nat) (kd : Nat → ClassId) (fd : Nat → Nat → Int32) : zg_c XL ad (xcA kd) (x0 fd) 32 = (ad 32, .inr (5, [.int 0, .int 0, .int 0, .ref (ad 33), .ref (ad 34)])) := rfl
theorem wc_33 (ad : Nat → Nat) (kd : Nat → ClassId) (fd : Nat → Nat → Int32) : zg_c XL ad (xcA kd) (x0 fd) 33 = (ad 33, .inl (kd 33, 96, .inl (fun _ => 0))) := rfl
theorem wc_34 (ad : Nat → Nat) (kd : Nat → ClassId) (fd : Nat → Nat → Int32) : zg_c XL ad (xcA kd) (x0 fd) 34 = (ad 34, .inl (kd 34, 96, .inl (fun _ => 0))) := rfl
theorem wc_35 (ad : Nat → Nat) (kd : Nat → ClassId) (fd : Nat → Nat → Int32) : zg_c XL ad (xcA kd) (x0 fd) 35 = (ad 35, .inr (5, [.int 0, .int 0, .int 0, .ref (ad 36), .ref (ad 37)])) := rfl
theorem wc_36 (ad : Nat → Nat) (kd : Nat → ClassId) (fd : Nat → Nat → Int32) : zg_c XL ad (xcA kd) (x0 fd) 36 = (ad 36, .inl (kd 36, 96, .inl (fun _ => 0))) := rfl
theorem wc_37 (ad : Nat → Nat) (kd : Nat → ClassId) (fd : Nat → Nat → Int32) : zg_c XL ad (xcA kd) (x0 fd) 37 = (ad 37, .inl (kd 37, 96, .inl (fun _ => 0))) := rfl
theorem wc_38 (ad : Nat → Nat) (kd : Nat → ClassId) (fd : Nat → Nat → Int32) : zg_c XL ad (xcA kd) (x0 fd) 38 = (ad 38, .inr (5, [.int 0, .int 0, .int 0, .ref (ad 39), .ref (ad 40)])) := rfl
theorem wc_39 (ad : Nat → Nat) (kd : Nat → ClassId) (fd : Nat → Nat → Int32) : zg_c XL ad (xcA kd) (x0 fd) 39 = (ad 39, .inl (kd 39, 96, .inl (fun _ => 0))) := rfl
theorem wc_40 (ad : Nat → Nat) (kd : Nat → ClassId) (fd : Nat → Nat → Int32) : zg_c XL ad (xcA kd) (x0 fd) 40 = (ad 40, .inl (kd 40, 96, .inl (fun _ => 0))) := rfl
theorem wc_41 (ad : Nat → Nat) (kd : Nat → ClassId) (fd : Nat → Nat → Int32) : zg_c XL ad (xcA kd) (x0 fd) 41 = (ad 41, .inr (5, [.int 0, .int 0, .int 0, .ref (ad 42), .ref (ad 43)])) := rfl
theorem wc_42 (ad : Nat → Nat) (kd : Nat → ClassId) (fd : Nat → Nat → Int32) : zg_c XL ad (xcA kd) (x0 fd) 42 = (ad 42, .inl (kd 42, 96, .inl (fun _ => 0))) := rfl
theorem wc_43 (ad : Nat → Nat) (kd : Nat → ClassId) (fd : Nat → Nat → Int32) : zg_c XL ad (xcA kd) (x0 fd) 43 = (ad 43, .inl (kd 43, 96, .inl (fun _ => 0))) := rfl
theorem wc_44 (ad : Nat → Nat) (kd : Nat → ClassId) (fd : Nat → Nat → Int32) : zg_c XL ad (xcA kd) (x0 fd) 44 = (ad 44, .inr (5, [.int 0, .int 0, .int 0, .ref (ad 45), .ref (ad 46)])) := rfl
theorem wc_45 (ad : Nat → Nat) (kd : Nat → ClassId) (fd : Nat → Nat → Int32) : zg_c XL ad (xcA kd) (x0 fd) 45 = (ad 45, .inl (kd 45, 96, .inl (fun _ => 0))) := rfl
theorem wc_46 (ad : Nat → Nat) (kd : Nat → ClassId) (fd : Nat → Nat → Int32) : zg_c XL ad (xcA kd) (x0 fd) 46 = (ad 46, .inl (kd 46, 96, .inl (fun _ => 0))) := rfl
theorem wc_47 (ad : Nat → Nat) (kd : Nat → ClassId) (fd : Nat → Nat → Int32) : zg_c XL ad (xcA kd) (x0 fd) 47 = (ad 47, .inr (5, [.int 0, .int 0, .int 0, .ref (ad 48), .ref (ad 49)])) := rfl
theorem wc_48 (ad : Nat → Nat) (kd : Nat → ClassId) (fd : Nat → Nat → Int32) : zg_c XL ad (xcA kd) (x0 fd) 48 = (ad 48, .inl (kd 48, 96, .inl (fun _ => 0))) := rfl
theorem wc_49 (ad : Nat → Nat) (kd : Nat → ClassId) (fd : Nat → Nat → Int32) : zg_c XL ad (xcA kd) (x0 fd) 49 = (ad 49, .inl (kd 49, 96, .inl (fun _ => 0))) := rfl
theorem wc_50 (ad : Nat → Nat) (kd : Nat → ClassId) (fd : Nat → Nat → Int32) : zg_c XL ad (xcA kd) (x0 fd) 50 = (ad 50, .inr (5, [.int 0, .int 0, .int 0, .ref (ad 51), .ref (ad 52)])) := rfl
theorem wc_51 (ad : Nat → Nat) (kd : Nat → ClassId) (fd : Nat → Nat → Int32) : zg_c XL ad (xcA kd) (x0 fd) 51 = (ad 51, .inl (kd 51, 96, .inl (fun _ => 0))) := rfl
theorem wc_52 (ad : Nat → Nat) (kd : Nat → ClassId) (fd : Nat → Nat → Int32) : zg_c XL ad (xcA kd) (x0 fd) 52 = (ad 52, .inl (kd 52, 96, .inl (fun _ => 0))) := rfl
theorem wc_53 (ad : Nat → Nat) (kd : Nat → ClassId) (fd : Nat → Nat → Int32) : zg_c XL ad (xcA kd) (x0 fd) 53 = (ad 53, .inr (2, [.int (-1), .int 0, .ref (ad 54)])) := rfl
theorem wc_54 (ad : Nat → Nat) (kd : Nat → ClassId) (fd : Nat → Nat → Int32) : zg_c XL ad (xcA kd) (x0 fd) 54 = (ad 54, .inl (kd 54, 24, .inl (fun _ => 0))) := rfl
theorem wc_55 (ad : Nat → Nat) (kd : Nat → ClassId) (fd : Nat → Nat → Int32) : zg_c XL ad (xcA kd) (x0 fd) 55 = (ad 55, .inr (2, [.int (-1), .int 0, .ref (ad 56)])) := rfl
theorem wc_56 (ad : Nat → Nat) (kd : Nat → ClassId) (fd : Nat → Nat → Int32) : zg_c XL ad (xcA kd) (x0 fd) 56 = (ad 56, .inl (kd 56, 24, .inl (fun _ => 0))) := rfl
theorem wc_57 (ad : Nat → Nat) (kd : Nat → ClassId) (fd : Nat → Nat → Int32) : zg_c XL ad (xcA kd) (x0 fd) 57 = (ad 57, .inr (2, [.int (-1), .int 0, .ref (ad 58)])) := rfl
theorem wc_58 (ad : Nat → Nat) (kd : Nat → ClassId) (fd : Nat → Nat → Int32) : zg_c XL ad (xcA kd) (x0 fd) 58 = (ad 58, .inl (kd 58, 24, .inl (fun _ => 0))) := rfl
theorem wc_59 (ad : Nat → Nat) (kd : Nat → ClassId) (fd : Nat → Nat → Int32) : zg_c XL ad (xcA kd) (x0 fd) 59 = (ad 59, .inr (2, [.int (-1), .int 0, .ref (ad 60)])) := rfl
theorem wc_60 (ad : Nat → Nat) (kd : Nat → ClassId) (fd : Nat → Nat → Int32) : zg_c XL ad (xcA kd) (x0 fd) 60 = (ad 60, .inl (kd 60, 24, .inl (fun _ => 0))) := rfl
theorem wc_61 (ad : Nat → Nat) (kd : Nat → ClassId) (fd : Nat → Nat → Int32) : zg_c XL ad (xcA kd) (x0 fd) 61 = (ad 61, .inr (3, [.int 0, .int 0, .ref (ad 62), .ref (ad 63)])) := rfl
theorem wc_62 (ad : Nat → Nat) (kd : Nat → ClassId) (fd : Nat → Nat → Int32) : zg_c XL ad (xcA kd) (x0 fd) 62 = (ad 62, .inr (4, [.int 0, .int 0, .int 0, .int 0])) := rfl
theorem wc_63 (ad : Nat → Nat) (kd : Nat → ClassId) (fd : Nat → Nat → Int32) : zg_c XL ad (xcA kd) (x0 fd) 63 = (ad 63, .inr (2, [.int (-1), .int 0, .ref (ad 64)])) := rfl
theorem wc_64 (ad : Nat → Nat) (kd : Nat → ClassId) (fd : Nat → Nat → Int32) : zg_c XL ad (xcA kd) (x0 fd) 64 = (ad 64, .inl (kd 64, 24, .inl (fun _ => 0))) := rfl
theorem wc_65 (ad : Nat → Nat) (kd : Nat → ClassId) (fd : Nat → Nat → Int32) : zg_c XL ad (xcA kd) (x0 fd) 65 = (ad 65, .inr (3, [.int 0, .int 0, .ref (ad 66), .ref (ad 67)])) := rfl
theorem wc_66 (ad : Nat → Nat) (kd : Nat → ClassId) (fd : Nat → Nat → Int32) : zg_c XL ad (xcA kd) (x0 fd) 66 = (ad 66, .inr (4, [.int 0, .int 0, .int 0, .int 0])) := rfl
theorem wc_67 (ad : Nat → Nat) (kd : Nat → ClassId) (fd : Nat → Nat → Int32) : zg_c XL ad (xcA kd) (x0 fd) 67 = (ad 67, .inr (2, [.int (-1), .int 0, .ref (ad 68)])) := rfl
theorem wc_68 (ad : Nat → Nat) (kd : Nat → ClassId) (fd : Nat → Nat → Int32) : zg_c XL ad (xcA kd) (x0 fd) 68 = (ad 68, .inl (kd 68, 24, .inl (fun _ => 0))) := rfl
theorem wc_69 (ad : Nat → Nat) (kd : Nat → ClassId) (fd : Nat → Nat → Int32) : zg_c XL ad (xcA kd) (x0 fd) 69 = (ad 69, .inr (3, [.int 0, .int 0, .ref (ad 70), .ref (ad 71)])) := rfl
theorem wc_70 (ad : Nat → Nat) (kd : Nat → ClassId) (fd : Nat → Nat → Int32) : zg_c XL ad (xcA kd) (x0 fd) 70 = (ad 70, .inr (4, [.int 0, .int 0, .int 0, .int 0])) := rfl
theorem wc_71 (ad : Nat → Nat) (kd : Nat → ClassId) (fd : Nat → Nat → Int32) : zg_c XL ad (xcA kd) (x0 fd) 71 = (ad 71, .inr (2, [.int (-1), .int 0, .ref (ad 72)])) := rfl
theorem wc_72 (ad : Nat → Nat) (kd : Nat → ClassId) (fd : Nat → Nat → Int32) : zg_c XL ad (xcA kd) (x0 fd) 72 = (ad 72, .inl (kd 72, 24, .inl (fun _ => 0))) := rfl
theorem wc_73 (ad : Nat → Nat) (kd : Nat → ClassId) (fd : Nat → Nat → Int32) : zg_c XL ad (xcA kd) (x0 fd) 73 = (ad 73, .inr (3, [.int 0, .int 0, .ref (ad 74), .ref (ad 75)])) := rfl
theorem wc_74 (ad : Nat → Nat) (kd : Nat → ClassId) (fd : Nat → Nat → Int32) : zg_c XL ad (xcA kd) (x0 fd) 74 = (ad 74, .inr (4, [.int 0, .int 0, .int 0, .int 0])) := rfl
theorem wc_75 (ad : Nat → Nat) (kd : Nat → ClassId) (fd : Nat → Nat → Int32) : zg_c XL ad (xcA kd) (x0 fd) 75 = (ad 75, .inr (2, [.int (-1), .int 0, .ref (ad 76)])) := rfl
theorem wc_76 (ad : Nat → Nat) (kd : Nat → ClassId) (fd : Nat → Nat → Int32) : zg_c XL ad (xcA kd) (x0 fd) 76 = (ad 76, .inl (kd 76, 24, .inl (fun _ => 0))) := rfl
theorem wc_77 (ad : Nat → Nat) (kd : Nat → ClassId) (fd : Nat → Nat → Int32) : zg_c XL ad (xcA kd) (x0 fd) 77 = (ad 77, .inr (3, [.int 0, .int 0, .ref (ad 78), .ref (ad 79)])) := rfl
theorem wc_78 (ad : Nat → Nat) (kd : Nat → ClassId) (fd : Nat → Nat → Int32) : zg_c XL ad (xcA kd) (x0 fd) 78 = (ad 78, .inr (4, [.int 0, .int 0, .int 0, .int 0])) := rfl
theorem wc_79 (ad : Nat → Nat) (kd : Nat → ClassId) (fd : Nat → Nat → Int32) : zg_c XL ad (xcA kd) (x0 fd) 79 = (ad 79, .inr (2, [.int (-1), .int 0, .ref (ad 80)])) := rfl
theorem wc_80 (ad : Nat → Nat) (kd : Nat → ClassId) (fd : Nat → Nat → Int32) : zg_c XL ad (xcA kd) (x0 fd) 80 = (ad 80, .inl (kd 80, 24, .inl (fun _ => 0))) := rfl
theorem wc_81 (ad : Nat → Nat) (kd : Nat → ClassId) (fd : Nat → Nat → Int32) : zg_c XL ad (xcA kd) (x0 fd) 81 = (ad 81, .inr (0, [.ref (ad 1), .ref (ad 82), .ref (ad 83), .int 0, .int 0, .int 3, .int 0, .int 0, .int 10, .int 0, .int 0, .int 0, .int 0, .int 1])) := rfl
theorem wc_82 (ad : Nat → Nat) (kd : Nat → ClassId) (fd : Nat → Nat → Int32) : zg_c XL ad (xcA kd) (x0 fd) 82 = (ad 82, .inl (kd 82, 9, .inr (.inr (.inr (.inr (fun j => some (ad (zg_ra 11 82 j)))))))) := rfl
theorem wc_83 (ad : Nat → Nat) (kd : Nat → ClassId) (fd : Nat → Nat → Int32) : zg_c XL ad (xcA kd) (x0 fd) 83 = (ad 83, .inl (kd 83, 3, .inl (fd 83))) := rfl
theorem wc_84 (ad : Nat → Nat) (kd : Nat → ClassId) (fd : Nat → Nat → Int32) : zg_c XL ad (xcA kd) (x0 fd) 84 = (ad 84, .inr (4, [.int 0, .int 0, .int 0, .int 0])) := rfl
theorem wc_85 (ad : Nat → Nat) (kd : Nat → ClassId) (fd : Nat → Nat → Int32) : zg_c XL ad (xcA kd) (x0 fd) 85 = (ad 85, .inr (4, [.int 0, .int 0, .int 0, .int 0])) := rfl
theorem wc_86 (ad : Nat → Nat) (kd : Nat → ClassId) (fd : Nat → Nat → Int32) : zg_c XL ad (xcA kd) (x0 fd) 86 = (ad 86, .inr (4, [.int 0, .int 0, .int 0, .int 0])) := rfl
theorem wc_87 (ad : Nat → Nat) (kd : Nat → ClassId) (fd : Nat → Nat → Int32) : zg_c XL ad (xcA kd) (x0 fd) 87 = (ad 87, .inr (4, [.int 0, .int 0, .int 0, .int 0])) := rfl
theorem wc_88 (ad : Nat → Nat) (kd : Nat → ClassId) (fd : Nat → Nat → Int32) : zg_c XL ad (xcA kd) (x0 fd) 88 = (ad 88, .inr (4, [.int 0, .int 0, .int 0, .int 0])) := rfl
theorem wc_89 (ad : Nat → Nat) (kd : Nat → ClassId) (fd : Nat → Nat → Int32) : zg_c XL ad (xcA kd) (x0 fd) 89 = (ad 89, .inr (4, [.int 0, .int 0, .int 0, .int 0])) := rfl
theorem wc_90 (ad : Nat → Nat) (kd : Nat → ClassId) (fd : Nat → Nat → Int32) : zg_c XL ad (xcA kd) (x0 fd) 90 = (ad 90, .inr (4, [.int 0, .int 0, .int 0, .int 0])) := rfl
theorem wc_91 (ad : Nat → Nat) (kd : Nat → ClassId) (fd : Nat → Nat → Int32) : zg_c XL ad (xcA kd) (x0 fd) 91 = (ad 91, .inr (4, [.int 0, .int 0, .int 0, .int 0])) := rfl
theorem wc_92 (ad : Nat → Nat) (kd : Nat → ClassId) (fd : Nat → Nat → Int32) : zg_c XL ad (xcA kd) (x0 fd) 92 = (ad 92, .inr (4, [.int 0, .int 0, .int 0, .int 0])) := rfl
theorem wc_93 (ad : Nat → Nat) (kd : Nat → ClassId) (fd : Nat → Nat → Int32) : zg_c XL ad (xcA kd) (x0 fd) 93 = (ad 93, .inr (0, [.ref (ad 1), .ref (ad 94), .ref (ad 95), .int 0, .int 0, .int 3, .int 0, .int 0, .int 10, .int 0, .int 0, .int 0, .int 0, .int 1])) := rfl
theorem wc_94 (ad : Nat → Nat) (kd : Nat → ClassId) (fd : Nat → Nat → Int32) : zg_c XL ad (xcA kd) (x0 fd) 94 = (ad 94, .inl (kd 94, 9, .inr (.inr (.inr (.inr (fun j => some (ad (zg_ra 11 94 j)))))))) := rfl
theorem wc_95 (ad : Nat → Nat) (kd : Nat → ClassId) (fd : Nat → Nat → Int32) : zg_c XL ad (xcA kd) (x0 fd) 95 = (ad 95, .inl (kd 95, 3, .inl (fd 95))) := rfl
theorem wc_96 (ad : Nat → Nat) (kd : Nat → ClassId) (fd : Nat → Nat → Int32) : zg_c XL ad (xcA kd) (x0 fd) 96 = (ad 96, .inr (4, [.int 0, .int 0, .int 0, .int 0])) := rfl
theorem wc_97 (ad : Nat → Nat) (kd : Nat → ClassId) (fd : Nat → Nat → Int32) : zg_c XL ad (xcA kd) (x0 fd) 97 = (ad 97, .inr (4, [.int 0, .int 0, .int 0, .int 0])) := rfl
theorem wc_98 (ad : Nat → Nat) (kd : Nat → ClassId) (fd : Nat → Nat → Int32) : zg_c XL ad (xcA kd) (x0 fd) 98 = (ad 98, .inr (4, [.int 0, .int 0, .int 0, .int 0])) := rfl
theorem wc_99 (ad : Nat → Nat) (kd : Nat → ClassId) (fd : Nat → Nat → Int32) : zg_c XL ad (xcA kd) (x0 fd) 99 = (ad 99, .inr (4, [.int 0, .int 0, .int 0, .int 0])) := rfl
theorem wc_100 (ad : Nat → Nat) (kd : Nat → ClassId) (fd : Nat → Nat → Int32) : zg_c XL ad (xcA kd) (x0 fd) 100 = (ad 100, .inr (4, [.int 0, .int 0, .int 0, .int 0])) := rfl
theorem wc_101 (ad : Nat → Nat) (kd : Nat → ClassId) (fd : Nat → Nat → Int32) : zg_c XL ad (xcA kd) (x0 fd) 101 = (ad 101, .inr (4, [.int 0, .int 0, .int 0, .int 0])) := rfl
theorem wc_102 (ad : Nat → Nat) (kd : Nat → ClassId) (fd : Nat → Nat → Int32) : zg_c XL ad (xcA kd) (x0 fd) 102 = (ad 102, .inr (4, [.int 0, .int 0, .int 0, .int 0])) := rfl
theorem wc_103 (ad : Nat → Nat) (kd : Nat → ClassId) (fd : Nat → Nat → Int32) : zg_c XL ad (xcA kd) (x0 fd) 103 = (ad 103, .inr (4, [.int 0, .int 0, .int 0, .int 0])) := rfl
theorem wc_104 (ad : Nat → Nat) (kd : Nat → ClassId) (fd : Nat → Nat → Int32) : zg_c XL ad (xcA kd) (x0 fd) 104 = (ad 104, .inr (4, [.int 0, .int 0, .int 0, .int 0])) := rfl
theorem wc_105 (ad : Nat → Nat) (kd : Nat → ClassId) (fd : Nat → Nat → Int32) : zg_c XL ad (xcA kd) (x0 fd) 105 = (ad 105, .inr (0, [.ref (ad 1), .ref (ad 106), .ref (ad 107), .int 0, .int 0, .int 3, .int 0, .int 0, .int 10, .int 0, .int 0, .int 0, .int 0, .int 1])) := rfl
theorem wc_106 (ad : Nat → Nat) (kd : Nat → ClassId) (fd : Nat → Nat → Int32) : zg_c XL ad (xcA kd) (x0 fd) 106 = (ad 106, .inl (kd 106, 9, .inr (.inr (.inr (.inr (fun j => some (ad (zg_ra 11 106 j)))))))) := rfl
theorem wc_107 (ad : Nat → Nat) (kd : Nat → ClassId) (fd : Nat → Nat → Int32) : zg_c XL ad (xcA kd) (x0 fd) 107 = (ad 107, .inl (kd 107, 3, .inl (fd 107))) := rfl
theorem wc_108 (ad : Nat → Nat) (kd : Nat → ClassId) (fd : Nat → Nat → Int32) : zg_c XL ad (xcA kd) (x0 fd) 108 = (ad 108, .inr (4, [.int 0, .int 0, .int 0, .int 0])) := rfl
theorem wc_109 (ad : Nat → Nat) (kd : Nat → ClassId) (fd : Nat → Nat → Int32) : zg_c XL ad (xcA kd) (x0 fd) 109 = (ad 109, .inr (4, [.int 0, .int 0, .int 0, .int 0])) := rfl
theorem wc_110 (ad : Nat → Nat) (kd : Nat → ClassId) (fd : Nat → Nat → Int32) : zg_c XL ad (xcA kd) (x0 fd) 110 = (ad 110, .inr (4, [.int 0, .int 0, .int 0, .int 0])) := rfl
theorem wc_111 (ad : Nat → Nat) (kd : Nat → ClassId) (fd : Nat → Nat → Int32) : zg_c XL ad (xcA kd) (x0 fd) 111 = (ad 111, .inr (4, [.int 0, .int 0, .int 0, .int 0])) := rfl
theorem wc_112 (ad : Nat → Nat) (kd : Nat → ClassId) (fd : Nat → Nat → Int32) : zg_c XL ad (xcA kd) (x0 fd) 112 = (ad 112, .inr (4, [.int 0, .int 0, .int 0, .int 0])) := rfl
theorem wc_113 (ad : Nat → Nat) (kd : Nat → ClassId) (fd : Nat → Nat → Int32) : zg_c XL ad (xcA kd) (x0 fd) 113 = (ad 113, .inr (4, [.int 0, .int 0, .int 0, .int 0])) := rfl
theorem wc_114 (ad : Nat → Nat) (kd : Nat → ClassId) (fd : Nat → Nat → Int32) : zg_c XL ad (xcA kd) (x0 fd) 114 = (ad 114, .inr (4, [.int 0, .int 0, .int 0, .int 0])) := rfl
theorem wc_115 (ad : Nat → Nat) (kd : Nat → ClassId) (fd : Nat → Nat → Int32) : zg_c XL ad (xcA kd) (x0 fd) 115 = (ad 115, .inr (4, [.int 0, .int 0, .int 0, .int 0])) := rfl
theorem wc_116 (ad : Nat → Nat) (kd : Nat → ClassId) (fd : Nat → Nat → Int32) : zg_c XL ad (xcA kd) (x0 fd) 116 = (ad 116, .inr (4, [.int 0, .int 0, .int 0, .int 0])) := rfl
theorem wc_117 (ad : Nat → Nat) (kd : Nat → ClassId) (fd : Nat → Nat → Int32) : zg_c XL ad (xcA kd) (x0 fd) 117 = (ad 117, .inr (0, [.ref (ad 1), .ref (ad 118), .ref (ad 119), .int 0, .int 0, .int 3, .int 0, .int 0, .int 10, .int 0, .int 0, .int 0, .int 0, .int 1])) := rfl
theorem wc_118 (ad : Nat → Nat) (kd : Nat → ClassId) (fd : Nat → Nat → Int32) : zg_c XL ad (xcA kd) (x0 fd) 118 = (ad 118, .inl (kd 118, 9, .inr (.inr (.inr (.inr (fun j => some (ad (zg_ra 11 118 j)))))))) := rfl
theorem wc_119 (ad : Nat → Nat) (kd : Nat → ClassId) (fd : Nat → Nat → Int32) : zg_c XL ad (xcA kd) (x0 fd) 119 = (ad 119, .inl (kd 119, 3, .inl (fd 119))) := rfl
theorem wc_120 (ad : Nat → Nat) (kd : Nat → ClassId) (fd : Nat → Nat → Int32) : zg_c XL ad (xcA kd) (x0 fd) 120 = (ad 120, .inr (4, [.int 0, .int 0, .int 0, .int 0])) := rfl
theorem wc_121 (ad : Nat → Nat) (kd : Nat → ClassId) (fd : Nat → Nat → Int32) : zg_c XL ad (xcA kd) (x0 fd) 121 = (ad 121, .inr (4, [.int 0, .int 0, .int 0, .int 0])) := rfl
theorem wc_122 (ad : Nat → Nat) (kd : Nat → ClassId) (fd : Nat → Nat → Int32) : zg_c XL ad (xcA kd) (x0 fd) 122 = (ad 122, .inr (4, [.int 0, .int 0, .int 0, .int 0])) := rfl
theorem wc_123 (ad : Nat → Nat) (kd : Nat → ClassId) (fd : Nat → Nat → Int32) : zg_c XL ad (xcA kd) (x0 fd) 123 = (ad 123, .inr (4, [.int 0, .int 0, .int 0, .int 0])) := rfl
theorem wc_124 (ad : Nat → Nat) (kd : Nat → ClassId) (fd : Nat → Nat → Int32) : zg_c XL ad (xcA kd) (x0 fd) 124 = (ad 124, .inr (4, [.int 0, .int 0, .int 0, .int 0])) := rfl
theorem wc_125 (ad : Nat → Nat) (kd : Nat → ClassId) (fd : Nat → Nat → Int32) : zg_c XL ad (xcA kd) (x0 fd) 125 = (ad 125, .inr (4, [.int 0, .int 0, .int 0, .int 0])) := rfl
theorem wc_126 (ad : Nat → Nat) (kd : Nat → ClassId) (fd : Nat → Nat → Int32) : zg_c XL ad (xcA kd) (x0 fd) 126 = (ad 126, .inr (4, [.int 0, .int 0, .int 0, .int 0])) := rfl
theorem wc_127 (ad : Nat → Nat) (kd : Nat → ClassId) (fd : Nat → Nat → Int32) : zg_c XL ad (xcA kd) (x0 fd) 127 = (ad 127, .inr (4, [.int 0, .int 0, .int 0, .int 0])) := rfl
theorem wc_128 (ad : Nat → Nat) (kd : Nat → ClassId) (fd : Nat → Nat → Int32) : zg_c XL ad (xcA kd) (x0 fd) 128 = (ad 128, .inr (4, [.int 0, .int 0, .int 0, .int 0])) := rfl
theorem wc_129 (ad : Nat → Nat) (kd : Nat → ClassId) (fd : Nat → Nat → Int32) : zg_c XL ad (xcA kd) (x0 fd) 129 = (ad 129, .inr (0, [.ref (ad 1), .ref (ad 130), .ref (ad 131), .int 0, .int 0, .int 3, .int 0, .int 0, .int 10, .int 0, .int 0, .int 0, .int 0, .int 1])) := rfl
theorem wc_130 (ad : Nat → Nat) (kd : Nat → ClassId) (fd : Nat → Nat → Int32) : zg_c XL ad (xcA kd) (x0 fd) 130 = (ad 130, .inl (kd 130, 9, .inr (.inr (.inr (.inr (fun j => some (ad (zg_ra 11 130 j)))))))) := rfl
theorem wc_131 (ad : Nat → Nat) (kd : Nat → ClassId) (fd : Nat → Nat → Int32) : zg_c XL ad (xcA kd) (x0 fd) 131 = (ad 131, .inl (kd 131, 3, .inl (fd 131))) := rfl
theorem wc_132 (ad : Nat → Nat) (kd : Nat → ClassId) (fd : Nat → Nat → Int32) : zg_c XL ad (xcA kd) (x0 fd) 132 = (ad 132, .inr (4, [.int 0, .int 0, .int 0, .int 0])) := rfl
theorem wc_133 (ad : Nat → Nat) (kd : Nat → ClassId) (fd : Nat → Nat → Int32) : zg_c XL ad (xcA kd) (x0 fd) 133 = (ad 133, .inr (4, [.int 0, .int 0, .int 0, .int 0])) := rfl
theorem wc_134 (ad : Nat → Nat) (kd : Nat → ClassId) (fd : Nat → Nat → Int32) : zg_c XL ad (xcA kd) (x0 fd) 134 = (ad 134, .inr (4, [.int 0, .int 0, .int 0, .int 0])) := rfl
theorem wc_135 (ad : Nat → Nat) (kd : Nat → ClassId) (fd : Nat → Nat → Int32) : zg_c XL ad (xcA kd) (x0 fd) 135 = (ad 135, .inr (4, [.int 0, .int 0, .int 0, .int 0])) := rfl
theorem wc_136 (ad : Nat → Nat) (kd : Nat → ClassId) (fd : Nat → Nat → Int32) : zg_c XL ad (xcA kd) (x0 fd) 136 = (ad 136, .inr (4, [.int 0, .int 0, .int 0, .int 0])) := rfl
theorem wc_137 (ad : Nat → Nat) (kd : Nat → ClassId) (fd : Nat → Nat → Int32) : zg_c XL ad (xcA kd) (x0 fd) 137 = (ad 137, .inr (4, [.int 0, .int 0, .int 0, .int 0])) := rfl
theorem wc_138 (ad : Nat → Nat) (kd : Nat → ClassId) (fd : Nat → Nat → Int32) : zg_c XL ad (xcA kd) (x0 fd) 138 = (ad 138, .inr (4, [.int 0, .int 0, .int 0, .int 0])) := rfl
theorem wc_139 (ad : Nat → Nat) (kd : Nat → ClassId) (fd : Nat → Nat → Int32) : zg_c XL ad (xcA kd) (x0 fd) 139 = (ad 139, .inr (4, [.int 0, .int 0, .int 0, .int 0])) := rfl
theorem wc_140 (ad : Nat → Nat) (kd : Nat → ClassId) (fd : Nat → Nat → Int32) : zg_c XL ad (xcA kd) (x0 fd) 140 = (ad 140, .inr (4, [.int 0, .int 0, .int 0, .int 0])) := rfl
theorem wc_141 (ad : Nat → Nat) (kd : Nat → ClassId) (fd : Nat → Nat → Int32) : zg_c XL ad (xcA kd) (x0 fd) 141 = (ad 141, .inr (0, [.ref (ad 1), .ref (ad 142), .ref (ad 143), .int 0, .int 0, .int 3, .int 0, .int 0, .int 10, .int 0, .int 0, .int 0, .int 0, .int 1])) := rfl
theorem wc_142 (ad : Nat → Nat) (kd : Nat → ClassId) (fd : Nat → Nat → Int32) : zg_c XL ad (xcA kd) (x0 fd) 142 = (ad 142, .inl (kd 142, 9, .inr (.inr (.inr (.inr (fun j => some (ad (zg_ra 11 142 j)))))))) := rfl
theorem wc_143 (ad : Nat → Nat) (kd : Nat → ClassId) (fd : Nat → Nat → Int32) : zg_c XL ad (xcA kd) (x0 fd) 143 = (ad 143, .inl (kd 143, 3, .inl (fd 143))) := rfl
theorem wc_144 (ad : Nat → Nat) (kd : Nat → ClassId) (fd : Nat → Nat → Int32) : zg_c XL ad (xcA kd) (x0 fd) 144 = (ad 144, .inr (4, [.int 0, .int 0, .int 0, .int 0])) := rfl
theorem wc_145 (ad : Nat → Nat) (kd : Nat → ClassId) (fd : Nat → Nat → Int32) : zg_c XL ad (xcA kd) (x0 fd) 145 = (ad 145, .inr (4, [.int 0, .int 0, .int 0, .int 0])) := rfl
theorem wc_146 (ad : Nat → Nat) (kd : Nat → ClassId) (fd : Nat → Nat → Int32) : zg_c XL ad (xcA kd) (x0 fd) 146 = (ad 146, .inr (4, [.int 0, .int 0, .int 0, .int 0])) := rfl
theorem wc_147 (ad : Nat → Nat) (kd : Nat → ClassId) (fd : Nat → Nat → Int32) : zg_c XL ad (xcA kd) (x0 fd) 147 = (ad 147, .inr (4, [.int 0, .int 0, .int 0, .int 0])) := rfl
theorem wc_148 (ad : Nat → Nat) (kd : Nat → ClassId) (fd : Nat → Nat → Int32) : zg_c XL ad (xcA kd) (x0 fd) 148 = (ad 148, .inr (4, [.int 0, .int 0, .int 0, .int 0])) := rfl
theorem wc_149 (ad : Nat → Nat) (kd : Nat → ClassId) (fd : Nat → Nat → Int32) : zg_c XL ad (xcA kd) (x0 fd) 149 = (ad 149, .inr (4, [.int 0, .int 0, .int 0, .int 0])) := rfl
theorem wc_150 (ad : Nat → Nat) (kd : Nat → ClassId) (fd : Nat → Nat → Int32) : zg_c XL ad (xcA kd) (x0 fd) 150 = (ad 150, .inr (4, [.int 0, .int 0, .int 0, .int 0])) := rfl
theorem wc_151 (ad : Nat → Nat) (kd : Nat → ClassId) (fd : Nat → Nat → Int32) : zg_c XL ad (xcA kd) (x0 fd) 151 = (ad 151, .inr (4, [.int 0, .int 0, .int 0, .int 0])) := rfl
theorem wc_152 (ad : Nat → Nat) (kd : Nat → ClassId) (fd : Nat → Nat → Int32) : zg_c XL ad (xcA kd) (x0 fd) 152 = (ad 152, .inr (4, [.int 0, .int 0, .int 0, .int 0])) := rfl
theorem wc_153 (ad : Nat → Nat) (kd : Nat → ClassId) (fd : Nat → Nat → Int32) : zg_c XL ad (xcA kd) (x0 fd) 153 = (ad 153, .inr (0, [.ref (ad 1), .ref (ad 154), .ref (ad 155), .int 0, .int 0, .int 3, .int 0, .int 0, .int 10, .int 0, .int 0, .int 0, .int 0, .int 1])) := rfl
theorem wc_154 (ad : Nat → Nat) (kd : Nat → ClassId) (fd : Nat → Nat → Int32) : zg_c XL ad (xcA kd) (x0 fd) 154 = (ad 154, .inl (kd 154, 9, .inr (.inr (.inr (.inr (fun j => some (ad (zg_ra 11 154 j)))))))) := rfl
theorem wc_155 (ad : Nat → Nat) (kd : Nat → ClassId) (fd : Nat → Nat → Int32) : zg_c XL ad (xcA kd) (x0 fd) 155 = (ad 155, .inl (kd 155, 3, .inl (fd 155))) := rfl
theorem wc_156 (ad : Nat → Nat) (kd : Nat → ClassId) (fd : Nat → Nat → Int32) : zg_c XL ad (xcA kd) (x0 fd) 156 = (ad 156, .inr (4, [.int 0, .int 0, .int 0, .int 0])) := rfl
theorem wc_157 (ad : Nat → Nat) (kd : Nat → ClassId) (fd : Nat → Nat → Int32) : zg_c XL ad (xcA kd) (x0 fd) 157 = (ad 157, .inr (4, [.int 0, .int 0, .int 0, .int 0])) := rfl
theorem wc_158 (ad : Nat → Nat) (kd : Nat → ClassId) (fd : Nat → Nat → Int32) : zg_c XL ad (xcA kd) (x0 fd) 158 = (ad 158, .inr (4, [.int 0, .int 0, .int 0, .int 0])) := rfl
theorem wc_159 (ad : Nat → Nat) (kd : Nat → ClassId) (fd : Nat → Nat → Int32) : zg_c XL ad (xcA kd) (x0 fd) 159 = (ad 159, .inr (4, [.int 0, .int 0, .int 0, .int 0])) := rfl
theorem wc_160 (ad : Nat → Nat) (kd : Nat → ClassId) (fd : Nat → Nat → Int32) : zg_c XL ad (xcA kd) (x0 fd) 160 = (ad 160, .inr (4, [.int 0, .int 0, .int 0, .int 0])) := rfl
theorem wc_161 (ad : Nat → Nat) (kd : Nat → ClassId) (fd : Nat → Nat → Int32) : zg_c XL ad (xcA kd) (x0 fd) 161 = (ad 161, .inr (4, [.int 0, .int 0, .int 0, .int 0])) := rfl
theorem wc_162 (ad : Nat → Nat) (kd : Nat → ClassId) (fd : Nat → Nat → Int32) : zg_c XL ad (xcA kd) (x0 fd) 162 = (ad 162, .inr (4, [.int 0, .int 0, .int 0, .int 0])) := rfl
theorem wc_163 (ad : Nat → Nat) (kd : Nat → ClassId) (fd : Nat → Nat → Int32) : zg_c XL ad (xcA kd) (x0 fd) 163 = (ad 163, .inr (4, [.int 0, .int 0, .int 0, .int 0])) := rfl
theorem wc_164 (ad : Nat → Nat) (kd : Nat → ClassId) (fd : Nat → Nat → Int32) : zg_c XL ad (xcA kd) (x0 fd) 164 = (ad 164, .inr (4, [.int 0, .int 0, .int 0, .int 0])) := rfl
theorem wc_165 (ad : Nat → Nat) (kd : Nat → ClassId) (fd : Nat → Nat → Int32) : zg_c XL ad (xcA kd) (x0 fd) 165 = (ad 165, .inr (0, [.ref (ad 1), .ref (ad 166), .ref (ad 167), .int 0, .int 0, .int 3, .int 0, .int 0, .int 10, .int 0, .int 0, .int 0, .int 0, .int 1])) := rfl
theorem wc_166 (ad : Nat → Nat) (kd : Nat → ClassId) (fd : Nat → Nat → Int32) : zg_c XL ad (xcA kd) (x0 fd) 166 = (ad 166, .inl (kd 166, 9, .inr (.inr (.inr (.inr (fun j => some (ad (zg_ra 11 166 j)))))))) := rfl
theorem wc_167 (ad : Nat → Nat) (kd : Nat → ClassId) (fd : Nat → Nat → Int32) : zg_c XL ad (xcA kd) (x0 fd) 167 = (ad 167, .inl (kd 167, 3, .inl (fd 167))) := rfl
theorem wc_168 (ad : Nat → Nat) (kd : Nat → ClassId) (fd : Nat → Nat → Int32) : zg_c XL ad (xcA kd) (x0 fd) 168 = (ad 168, .inr (4, [.int 0, .int 0, .int 0, .int 0])) := rfl
theorem wc_169 (ad : Nat → Nat) (kd : Nat → ClassId) (fd : Nat → Nat → Int32) : zg_c XL ad (xcA kd) (x0 fd) 169 = (ad 169, .inr (4, [.int 0, .int 0, .int 0, .int 0])) := rfl
theorem wc_170 (ad : Nat → Nat) (kd : Nat → ClassId) (fd : Nat → Nat → Int32) : zg_c XL ad (xcA kd) (x0 fd) 170 = (ad 170, .inr (4, [.int 0, .int 0, .int 0, .int 0])) := rfl
theorem wc_171 (ad : Nat → Nat) (kd : Nat → ClassId) (fd : Nat → Nat → Int32) : zg_c XL ad (xcA kd) (x0 fd) 171 = (ad 171, .inr (4, [.int 0, .int 0, .int 0, .int 0])) := rfl
theorem wc_172 (ad : Nat → Nat) (kd : Nat → ClassId) (fd : Nat → Nat → Int32) : zg_c XL ad (xcA kd) (x0 fd) 172 = (ad 172, .inr (4, [.int 0, .int 0, .int 0, .int 0])) := rfl
theorem wc_173 (ad : Nat → Nat) (kd : Nat → ClassId) (fd : Nat → Nat → Int32) : zg_c XL ad (xcA kd) (x0 fd) 173 = (ad 173, .inr (4, [.int 0, .int 0, .int 0, .int 0])) := rfl
theorem wc_174 (ad : Nat → Nat) (kd : Nat → ClassId) (fd : Nat → Nat → Int32) : zg_c XL ad (xcA kd) (x0 fd) 174 = (ad 174, .inr (4, [.int 0, .int 0, .int 0, .int 0])) := rfl
theorem wc_175 (ad : Nat → Nat) (kd : Nat → ClassId) (fd : Nat → Nat → Int32) : zg_c XL ad (xcA kd) (x0 fd) 175 = (ad 175, .inr (4, [.int 0, .int 0, .int 0, .int 0])) := rfl
theorem wc_176 (ad : Nat → Nat) (kd : Nat → ClassId) (fd : Nat → Nat → Int32) : zg_c XL ad (xcA kd) (x0 fd) 176 = (ad 176, .inr (4, [.int 0, .int 0, .int 0, .int 0])) := rfl
theorem wc_177 (ad : Nat → Nat) (kd : Nat → ClassId) (fd : Nat → Nat → Int32) : zg_c XL ad (xcA kd) (x0 fd) 177 = (ad 177, .inr (0, [.ref (ad 1), .ref (ad 178), .ref (ad 179), .int 0, .int 0, .int 3, .int 0, .int 0, .int 10, .int 0, .int 0, .int 0, .int 0, .int 1])) := rfl
theorem wc_178 (ad : Nat → Nat) (kd : Nat → ClassId) (fd : Nat → Nat → Int32) : zg_c XL ad (xcA kd) (x0 fd) 178 = (ad 178, .inl (kd 178, 9, .inr (.inr (.inr (.inr (fun j => some (ad (zg_ra 11 178 j)))))))) := rfl
theorem wc_179 (ad : Nat → Nat) (kd : Nat → ClassId) (fd : Nat → Nat → Int32) : zg_c XL ad (xcA kd) (x0 fd) 179 = (ad 179, .inl (kd 179, 3, .inl (fd 179))) := rfl
theorem wc_180 (ad : Nat → Nat) (kd : Nat → ClassId) (fd : Nat → Nat → Int32) : zg_c XL ad (xcA kd) (x0 fd) 180 = (ad 180, .inr (4, [.int 0, .int 0, .int 0, .int 0])) := rfl
theorem wc_181 (ad : Nat → Nat) (kd : Nat → ClassId) (fd : Nat → Nat → Int32) : zg_c XL ad (xcA kd) (x0 fd) 181 = (ad 181, .inr (4, [.int 0, .int 0, .int 0, .int 0])) := rfl
theorem wc_182 (ad : Nat → Nat) (kd : Nat → ClassId) (fd : Nat → Nat → Int32) : zg_c XL ad (xcA kd) (x0 fd) 182 = (ad 182, .inr (4, [.int 0, .int 0, .int 0, .int 0])) := rfl
theorem wc_183 (ad : Nat → Nat) (kd : Nat → ClassId) (fd : Nat → Nat → Int32) : zg_c XL ad (xcA kd) (x0 fd) 183 = (ad 183, .inr (4, [.int 0, .int 0, .int 0, .int 0])) := rfl
theorem wc_184 (ad : Nat → Nat) (kd : Nat → ClassId) (fd : Nat → Nat → Int32) : zg_c XL ad (xcA kd) (x0 fd) 184 = (ad 184, .inr (4, [.int 0, .int 0, .int 0, .int 0])) := rfl
theorem wc_185 (ad : Nat → Nat) (kd : Nat → ClassId) (fd : Nat → Nat → Int32) : zg_c XL ad (xcA kd) (x0 fd) 185 = (ad 185, .inr (4, [.int 0, .int 0, .int 0, .int 0])) := rfl
theorem wc_186 (ad : Nat → Nat) (kd : Nat → ClassId) (fd : Nat → Nat → Int32) : zg_c XL ad (xcA kd) (x0 fd) 186 = (ad 186, .inr (4, [.int 0, .int 0, .int 0, .int 0])) := rfl
theorem wc_187 (ad : Nat → Nat) (kd : Nat → ClassId) (fd : Nat → Nat → Int32) : zg_c XL ad (xcA kd) (x0 fd) 187 = (ad 187, .inr (4, [.int 0, .int 0, .int 0, .int 0])) := rfl
theorem wc_188 (ad : Nat → Nat) (kd : Nat → ClassId) (fd : Nat → Nat → Int32) : zg_c XL ad (xcA kd) (x0 fd) 188 = (ad 188, .inr (4, [.int 0, .int 0, .int 0, .int 0])) := rfl
set_option maxRecDepth 100000 in
theorem wc_rng : List.range 189 = [0, 1, 2, 3, 4, 5, 6, 7, 8, 9, 10, 11, 12, 13, 14, 15, 16, 17, 18, 19, 20, 21, 22, 23, 24, 25, 26, 27, 28, 29, 30, 31, 32, 33, 34, 35, 36, 37, 38, 39, 40, 41, 42, 43, 44, 45, 46, 47, 48, 49, 50, 51, 52, 53, 54, 55, 56, 57, 58, 59, 60, 61, 62, 63, 64, 65, 66, 67, 68, 69, 70, 71, 72, 73, 74, 75, 76, 77, 78, 79, 80, 81, 82, 83, 84, 85, 86, 87, 88, 89, 90, 91, 92, 93, 94, 95, 96, 97, 98, 99, 100, 101, 102, 103, 104, 105, 106, 107, 108, 109, 110, 111, 112, 113, 114, 115, 116, 117, 118, 119, 120, 121, 122, 123, 124, 125, 126, 127, 128, 129, 130, 131, 132, 133, 134, 135, 136, 137, 138, 139, 140, 141, 142, 143, 144, 145, 146, 147, 148, 149, 150, 151, 152, 153, 154, 155, 156, 157, 158, 159, 160, 161, 162, 163, 164, 165, 166, 167, 168, 169, 170, 171, 172, 173, 174, 175, 176, 177, 178, 179, 180, 181, 182, 183, 184, 185, 186, 187, 188] := rfl
set_option maxHeartbeats 8000000 in
set_option maxRecDepth 100000 in
theorem one_list (ad : Nat → Nat) (kd : Nat → ClassId) (fd : Nat → Nat → Int32) : zg_W XL ad (xcA kd) (x0 fd) = [(ad 0, .inr (6, [.ref (ad 1), .ref (ad 153), .ref (ad 165), .ref (ad 177), .ref (ad 2), .ref (ad 6), .ref (ad 7), .ref (ad 3), .ref (ad 4), .ref (ad 5), .int 0, .int 0, .int 0, .int 0, .int 0])), (ad 1, .inl (kd 1, 14, .inr (.inr (.inr (.inr (fun j => some (ad (zg_ra 9 1 j)))))))), (ad 2, .inl (kd 2, 6, .inr (.inr (.inr (.inr (fun j => some (ad (zg_ra 10 2 j)))))))), (ad 3, .inl (kd 3, 4, .inr (.inr (.inr (.inr (fun j => some (ad (zg_ra 12 3 j)))))))), (ad 4, .inl (kd 4, 5, .inr (.inr (.inr (.inr (fun j => some (ad (zg_ra 13 4 j)))))))), (ad 5, .inl (kd 5, 60, .inl (fun _ => 0))), (ad 6, .inl (kd 6, 96, .inl (fun _ => 0))), (ad 7, .inr (1, [.ref (ad 6), .ref (ad 8), .int 0, .int 0, .int 0, .int 0, .int 0, .int 0])), (ad 8, .inr (5, [.int 0, .int 0, .int 0, .ref (ad 9), .ref (ad 10)])), (ad 9, .inl (kd 9, 96, .inl (fun _ => 0))), (ad 10, .inl (kd 10, 96, .inl (fun _ => 0))), (ad 11, .inr (5, [.int 0, .int 0, .int 0, .ref (ad 12), .ref (ad 13)])), (ad 12, .inl (kd 12, 96, .inl (fun _ => 0))), (ad 13, .inl (kd 13, 96, .inl (fun _ => 0))), (ad 14, .inr (5, [.int 0, .int 0, .int 0, .ref (ad 15), .ref (ad 16)])), (ad 15, .inl (kd 15, 96, .inl (fun _ => 0))), (ad 16, .inl (kd 16, 96, .inl (fun _ => 0))), (ad 17, .inr (5, [.int 0, .int 0, .int 0, .ref (ad 18), .ref (ad 19)])), (ad 18, .inl (kd 18, 96, .inl (fun _ => 0))), (ad 19, .inl (kd 19, 96, .inl (fun _ => 0))), (ad 20, .inr (5, [.int 0, .int 0, .int 0, .ref (ad 21), .ref (ad 22)])), (ad 21, .inl (kd 21, 96, .inl (fun _ => 0))), (ad 22, .inl (kd 22, 96, .inl (fun _ => 0))), (ad 23, .inr (5, [.int 0, .int 0, .int 0, .ref (ad 24), .ref (ad 25)])), (ad 24, .inl (kd 24, 96, .inl (fun _ => 0))), (ad 25, .inl (kd 25, 96, .inl (fun _ => 0))), (ad 26, .inr (5, [.int 0, .int 0, .int 0, .ref (ad 27), .ref (ad 28)])), (ad 27, .inl (kd 27, 96, .inl (fun _ => 0))), (ad 28, .inl (kd 28, 96, .inl (fun _ => 0))), (ad 29, .inr (5, [.int 0, .int 0, .int 0, .ref (ad 30), .ref (ad 31)])), (ad 30, .inl (kd 30, 96, .inl (fun _ => 0))), (ad 31, .inl (kd 31, 96, .inl (fun _ => 0))), (ad 32, .inr (5, [.int 0, .int 0, .int 0, .ref (ad 33), .ref (ad 34)])), (ad 33, .inl (kd 33, 96, .inl (fun _ => 0))), (ad 34, .inl (kd 34, 96, .inl (fun _ => 0))), (ad 35, .inr (5, [.int 0, .int 0, .int 0, .ref (ad 36), .ref (ad 37)])), (ad 36, .inl (kd 36, 96, .inl (fun _ => 0))), (ad 37, .inl (kd 37, 96, .inl (fun _ => 0))), (ad 38, .inr (5, [.int 0, .int 0, .int 0, .ref (ad 39), .ref (ad 40)])), (ad 39, .inl (kd 39, 96, .inl (fun _ => 0))), (ad 40, .inl (kd 40, 96, .inl (fun _ => 0))), (ad 41, .inr (5, [.int 0, .int 0, .int 0, .ref (ad 42), .ref (ad 43)])), (ad 42, .inl (kd 42, 96, .inl (fun _ => 0))), (ad 43, .inl (kd 43, 96, .inl (fun _ => 0))), (ad 44, .inr (5, [.int 0, .int 0, .int 0, .ref (ad 45), .ref (ad 46)])), (ad 45, .inl (kd 45, 96, .inl (fun _ => 0))), (ad 46, .inl (kd 46, 96, .inl (fun _ => 0))), (ad 47, .inr (5, [.int 0, .int 0, .int 0, .ref (ad 48), .ref (ad 49)])), (ad 48, .inl (kd 48, 96, .inl (fun _ => 0))), (ad 49, .inl (kd 49, 96, .inl (fun _ => 0))), (ad 50, .inr (5, [.int 0, .int 0, .int 0, .ref (ad 51), .ref (ad 52)])), (ad 51, .inl (kd 51, 96, .inl (fun _ => 0))), (ad 52, .inl (kd 52, 96, .inl (fun _ => 0))), (ad 53, .inr (2, [.int (-1), .int 0, .ref (ad 54)])), (ad 54, .inl (kd 54, 24, .inl (fun _ => 0))), (ad 55, .inr (2, [.int (-1), .int 0, .ref (ad 56)])), (ad 56, .inl (kd 56, 24, .inl (fun _ => 0))), (ad 57, .inr (2, [.int (-1), .int 0, .ref (ad 58)])), (ad 58, .inl (kd 58, 24, .inl (fun _ => 0))), (ad 59, .inr (2, [.int (-1), .int 0, .ref (ad 60)])), (ad 60, .inl (kd 60, 24, .inl (fun _ => 0))), (ad 61, .inr (3, [.int 0, .int 0, .ref (ad 62), .ref (ad 63)])), (ad 62, .inr (4, [.int 0, .int 0, .int 0, .int 0])), (ad 63, .inr (2, [.int (-1), .int 0, .ref (ad 64)])), (ad 64, .inl (kd 64, 24, .inl (fun _ => 0))), (ad 65, .inr (3, [.int 0, .int 0, .ref (ad 66), .ref (ad 67)])), (ad 66, .inr (4, [.int 0, .int 0, .int 0, .int 0])), (ad 67, .inr (2, [.int (-1), .int 0, .ref (ad 68)])), (ad 68, .inl (kd 68, 24, .inl (fun _ => 0))), (ad 69, .inr (3, [.int 0, .int 0, .ref (ad 70), .ref (ad 71)])), (ad 70, .inr (4, [.int 0, .int 0, .int 0, .int 0])), (ad 71, .inr (2, [.int (-1), .int 0, .ref (ad 72)])), (ad 72, .inl (kd 72, 24, .inl (fun _ => 0))), (ad 73, .inr (3, [.int 0, .int 0, .ref (ad 74), .ref (ad 75)])), (ad 74, .inr (4, [.int 0, .int 0, .int 0, .int 0])), (ad 75, .inr (2, [.int (-1), .int 0, .ref (ad 76)])), (ad 76, .inl (kd 76, 24, .inl (fun _ => 0))), (ad 77, .inr (3, [.int 0, .int 0, .ref (ad 78), .ref (ad 79)])), (ad 78, .inr (4, [.int 0, .int 0, .int 0, .int 0])), (ad 79, .inr (2, [.int (-1), .int 0, .ref (ad 80)])), (ad 80, .inl (kd 80, 24, .inl (fun _ => 0))), (ad 81, .inr (0, [.ref (ad 1), .ref (ad 82), .ref (ad 83), .int 0, .int 0, .int 3, .int 0, .int 0, .int 10, .int 0, .int 0, .int 0, .int 0, .int 1])), (ad 82, .inl (kd 82, 9, .inr (.inr (.inr (.inr (fun j => some (ad (zg_ra 11 82 j)))))))), (ad 83, .inl (kd 83, 3, .inl (fd 83))), (ad 84, .inr (4, [.int 0, .int 0, .int 0, .int 0])), (ad 85, .inr (4, [.int 0, .int 0, .int 0, .int 0])), (ad 86, .inr (4, [.int 0, .int 0, .int 0, .int 0])), (ad 87, .inr (4, [.int 0, .int 0, .int 0, .int 0])), (ad 88, .inr (4, [.int 0, .int 0, .int 0, .int 0])), (ad 89, .inr (4, [.int 0, .int 0, .int 0, .int 0])), (ad 90, .inr (4, [.int 0, .int 0, .int 0, .int 0])), (ad 91, .inr (4, [.int 0, .int 0, .int 0, .int 0])), (ad 92, .inr (4, [.int 0, .int 0, .int 0, .int 0])), (ad 93, .inr (0, [.ref (ad 1), .ref (ad 94), .ref (ad 95), .int 0, .int 0, .int 3, .int 0, .int 0, .int 10, .int 0, .int 0, .int 0, .int 0, .int 1])), (ad 94, .inl (kd 94, 9, .inr (.inr (.inr (.inr (fun j => some (ad (zg_ra 11 94 j)))))))), (ad 95, .inl (kd 95, 3, .inl (fd 95))), (ad 96, .inr (4, [.int 0, .int 0, .int 0, .int 0])), (ad 97, .inr (4, [.int 0, .int 0, .int 0, .int 0])), (ad 98, .inr (4, [.int 0, .int 0, .int 0, .int 0])), (ad 99, .inr (4, [.int 0, .int 0, .int 0, .int 0])), (ad 100, .inr (4, [.int 0, .int 0, .int 0, .int 0])), (ad 101, .inr (4, [.int 0, .int 0, .int 0, .int 0])), (ad 102, .inr (4, [.int 0, .int 0, .int 0, .int 0])), (ad 103, .inr (4, [.int 0, .int 0, .int 0, .int 0])), (ad 104, .inr (4, [.int 0, .int 0, .int 0, .int 0])), (ad 105, .inr (0, [.ref (ad 1), .ref (ad 106), .ref (ad 107), .int 0, .int 0, .int 3, .int 0, .int 0, .int 10, .int 0, .int 0, .int 0, .int 0, .int 1])), (ad 106, .inl (kd 106, 9, .inr (.inr (.inr (.inr (fun j => some (ad (zg_ra 11 106 j)))))))), (ad 107, .inl (kd 107, 3, .inl (fd 107))), (ad 108, .inr (4, [.int 0, .int 0, .int 0, .int 0])), (ad 109, .inr (4, [.int 0, .int 0, .int 0, .int 0])), (ad 110, .inr (4, [.int 0, .int 0, .int 0, .int 0])), (ad 111, .inr (4, [.int 0, .int 0, .int 0, .int 0])), (ad 112, .inr (4, [.int 0, .int 0, .int 0, .int 0])), (ad 113, .inr (4, [.int 0, .int 0, .int 0, .int 0])), (ad 114, .inr (4, [.int 0, .int 0, .int 0, .int 0])), (ad 115, .inr (4, [.int 0, .int 0, .int 0, .int 0])), (ad 116, .inr (4, [.int 0, .int 0, .int 0, .int 0])), (ad 117, .inr (0, [.ref (ad 1), .ref (ad 118), .ref (ad 119), .int 0, .int 0, .int 3, .int 0, .int 0, .int 10, .int 0, .int 0, .int 0, .int 0, .int 1])), (ad 118, .inl (kd 118, 9, .inr (.inr (.inr (.inr (fun j => some (ad (zg_ra 11 118 j)))))))), (ad 119, .inl (kd 119, 3, .inl (fd 119))), (ad 120, .inr (4, [.int 0, .int 0, .int 0, .int 0])), (ad 121, .inr (4, [.int 0, .int 0, .int 0, .int 0])), (ad 122, .inr (4, [.int 0, .int 0, .int 0, .int 0])), (ad 123, .inr (4, [.int 0, .int 0, .int 0, .int 0])), (ad 124, .inr (4, [.int 0, .int 0, .int 0, .int 0])), (ad 125, .inr (4, [.int 0, .int 0, .int 0, .int 0])), (ad 126, .inr (4, [.int 0, .int 0, .int 0, .int 0])), (ad 127, .inr (4, [.int 0, .int 0, .int 0, .int 0])), (ad 128, .inr (4, [.int 0, .int 0, .int 0, .int 0])), (ad 129, .inr (0, [.ref (ad 1), .ref (ad 130), .ref (ad 131), .int 0, .int 0, .int 3, .int 0, .int 0, .int 10, .int 0, .int 0, .int 0, .int 0, .int 1])), (ad 130, .inl (kd 130, 9, .inr (.inr (.inr (.inr (fun j => some (ad (zg_ra 11 130 j)))))))), (ad 131, .inl (kd 131, 3, .inl (fd 131))), (ad 132, .inr (4, [.int 0, .int 0, .int 0, .int 0])), (ad 133, .inr (4, [.int 0, .int 0, .int 0, .int 0])), (ad 134, .inr (4, [.int 0, .int 0, .int 0, .int 0])), (ad 135, .inr (4, [.int 0, .int 0, .int 0, .int 0])), (ad 136, .inr (4, [.int 0, .int 0, .int 0, .int 0])), (ad 137, .inr (4, [.int 0, .int 0, .int 0, .int 0])), (ad 138, .inr (4, [.int 0, .int 0, .int 0, .int 0])), (ad 139, .inr (4, [.int 0, .int 0, .int 0, .int 0])), (ad 140, .inr (4, [.int 0, .int 0, .int 0, .int 0])), (ad 141, .inr (0, [.ref (ad 1), .ref (ad 142), .ref (ad 143), .int 0, .int 0, .int 3, .int 0, .int 0, .int 10, .int 0, .int 0, .int 0, .int 0, .int 1])), (ad 142, .inl (kd 142, 9, .inr (.inr (.inr (.inr (fun j => some (ad (zg_ra 11 142 j)))))))), (ad 143, .inl (kd 143, 3, .inl (fd 143))), (ad 144, .inr (4, [.int 0, .int 0, .int 0, .int 0])), (ad 145, .inr (4, [.int 0, .int 0, .int 0, .int 0])), (ad 146, .inr (4, [.int 0, .int 0, .int 0, .int 0])), (ad 147, .inr (4, [.int 0, .int 0, .int 0, .int 0])), (ad 148, .inr (4, [.int 0, .int 0, .int 0, .int 0])), (ad 149, .inr (4, [.int 0, .int 0, .int 0, .int 0])), (ad 150, .inr (4, [.int 0, .int 0, .int 0, .int 0])), (ad 151, .inr (4, [.int 0, .int 0, .int 0, .int 0])), (ad 152, .inr (4, [.int 0, .int 0, .int 0, .int 0])), (ad 153, .inr (0, [.ref (ad 1), .ref (ad 154), .ref (ad 155), .int 0, .int 0, .int 3, .int 0, .int 0, .int 10, .int 0, .int 0, .int 0, .int 0, .int 1])), (ad 154, .inl (kd 154, 9, .inr (.inr (.inr (.inr (fun j => some (ad (zg_ra 11 154 j)))))))), (ad 155, .inl (kd 155, 3, .inl (fd 155))), (ad 156, .inr (4, [.int 0, .int 0, .int 0, .int 0])), (ad 157, .inr (4, [.int 0, .int 0, .int 0, .int 0])), (ad 158, .inr (4, [.int 0, .int 0, .int 0, .int 0])), (ad 159, .inr (4, [.int 0, .int 0, .int 0, .int 0])), (ad 160, .inr (4, [.int 0, .int 0, .int 0, .int 0])), (ad 161, .inr (4, [.int 0, .int 0, .int 0, .int 0])), (ad 162, .inr (4, [.int 0, .int 0, .int 0, .int 0])), (ad 163, .inr (4, [.int 0, .int 0, .int 0, .int 0])), (ad 164, .inr (4, [.int 0, .int 0, .int 0, .int 0])), (ad 165, .inr (0, [.ref (ad 1), .ref (ad 166), .ref (ad 167), .int 0, .int 0, .int 3, .int 0, .int 0, .int 10, .int 0, .int 0, .int 0, .int 0, .int 1])), (ad 166, .inl (kd 166, 9, .inr (.inr (.inr (.inr (fun j => some (ad (zg_ra 11 166 j)))))))), (ad 167, .inl (kd 167, 3, .inl (fd 167))), (ad 168, .inr (4, [.int 0, .int 0, .int 0, .int 0])), (ad 169, .inr (4, [.int 0, .int 0, .int 0, .int 0])), (ad 170, .inr (4, [.int 0, .int 0, .int 0, .int 0])), (ad 171, .inr (4, [.int 0, .int 0, .int 0, .int 0])), (ad 172, .inr (4, [.int 0, .int 0, .int 0, .int 0])), (ad 173, .inr (4, [.int 0, .int 0, .int 0, .int 0])), (ad 174, .inr (4, [.int 0, .int 0, .int 0, .int 0])), (ad 175, .inr (4, [.int 0, .int 0, .int 0, .int 0])), (ad 176, .inr (4, [.int 0, .int 0, .int 0, .int 0])), (ad 177, .inr (0, [.ref (ad 1), .ref (ad 178), .ref (ad 179), .int 0, .int 0, .int 3, .int 0, .int 0, .int 10, .int 0, .int 0, .int 0, .int 0, .int 1])), (ad 178, .inl (kd 178, 9, .inr (.inr (.inr (.inr (fun j => some (ad (zg_ra 11 178 j)))))))), (ad 179, .inl (kd 179, 3, .inl (fd 179))), (ad 180, .inr (4, [.int 0, .int 0, .int 0, .int 0])), (ad 181, .inr (4, [.int 0, .int 0, .int 0, .int 0])), (ad 182, .inr (4, [.int 0, .int 0, .int 0, .int 0])), (ad 183, .inr (4, [.int 0, .int 0, .int 0, .int 0])), (ad 184, .inr (4, [.int 0, .int 0, .int 0, .int 0])), (ad 185, .inr (4, [.int 0, .int 0, .int 0, .int 0])), (ad 186, .inr (4, [.int 0, .int 0, .int 0, .int 0])), (ad 187, .inr (4, [.int 0, .int 0, .int 0, .int 0])), (ad 188, .inr (4, [.int 0, .int 0, .int 0, .int 0]))] := by
  show (List.range 189).map (zg_c XL ad (xcA kd) (x0 fd)) = _
  rw [wc_rng]
  simp only [List.map_cons, List.map_nil, wc_0, wc_1, wc_2, wc_3, wc_4, wc_5, wc_6, wc_7, wc_8, wc_9, wc_10, wc_11, wc_12, wc_13, wc_14, wc_15, wc_16, wc_17, wc_18, wc_19, wc_20, wc_21, wc_22, wc_23, wc_24, wc_25, wc_26, wc_27, wc_28, wc_29, wc_30, wc_31, wc_32, wc_33, wc_34, wc_35, wc_36, wc_37, wc_38, wc_39, wc_40, wc_41, wc_42, wc_43, wc_44, wc_45, wc_46, wc_47, wc_48, wc_49, wc_50, wc_51, wc_52, wc_53, wc_54, wc_55, wc_56, wc_57, wc_58, wc_59, wc_60, wc_61, wc_62, wc_63, wc_64, wc_65, wc_66, wc_67, wc_68, wc_69, wc_70, wc_71, wc_72, wc_73, wc_74, wc_75, wc_76, wc_77, wc_78, wc_79, wc_80, wc_81, wc_82, wc_83, wc_84, wc_85, wc_86, wc_87, wc_88, wc_89, wc_90, wc_91, wc_92, wc_93, wc_94, wc_95, wc_96, wc_97, wc_98, wc_99, wc_100, wc_101, wc_102, wc_103, wc_104, wc_105, wc_106, wc_107, wc_108, wc_109, wc_110, wc_111, wc_112, wc_113, wc_114, wc_115, wc_116, wc_117, wc_118, wc_119, wc_120, wc_121, wc_122, wc_123, wc_124, wc_125, wc_126, wc_127, wc_128, wc_129, wc_130, wc_131, wc_132, wc_133, wc_134, wc_135, wc_136, wc_137, wc_138, wc_139, wc_140, wc_141, wc_142, wc_143, wc_144, wc_145, wc_146, wc_147, wc_148, wc_149, wc_150, wc_151, wc_152, wc_153, wc_154, wc_155, wc_156, wc_157, wc_158, wc_159, wc_160, wc_161, wc_162, wc_163, wc_164, wc_165, wc_166, wc_167, wc_168, wc_169, wc_170, wc_171, wc_172, wc_173, wc_174, wc_175, wc_176, wc_177, wc_178, wc_179, wc_180, wc_181, wc_182, wc_183, wc_184, wc_185, wc_186, wc_187, wc_188]
theorem zz_S.cast {s : State} {H : Heap} {locs : List Loc} {D : va_G} {V : zz_V} {A : Nat → Prop} {WS WS' : va_W} {TYS TYS' : List (ClassId × FieldType)} (Z : zz_S D V A s WS TYS H locs) (hw : WS = WS') (ts : List Nat) (ht : ts.filterMap (fun i => TYS[i]?) = TYS') : zz_S D V A s WS' TYS' H locs := by
  subst hw
  exact ⟨Z.1, Z.2.1, Z.2.2.1.sub ts ht, Z.2.2.2⟩
set_option maxHeartbeats 8000000 in
set_option maxRecDepth 100000 in
theorem one_world {s : State} {H : Heap} {locs : List Loc} {D : va_G} {V : zz_V} {A : Nat → Prop} (ad : Nat → Nat) (kd : Nat → ClassId) (fd : Nat → Nat → Int32) (gd : Nat → Nat → Option Nat) (h : ini_a ad fd gd) (Z : zz_S D V A s [(ad 0, .inr (6, [.ref (ad 1), .ref (ad 153), .ref (ad 165), .ref (ad 177), .ref (ad 2), .ref (ad 6), .ref (ad 7), .ref (ad 3), .ref (ad 4), .ref (ad 5), .int 0, .int 0, .int 0, .int 0, .int 0])), (ad 1, .inl (kd 1, 14, .inr (.inr (.inr (.inr (gd 1)))))), (ad 2, .inl (kd 2, 6, .inr (.inr (.inr (.inr (gd 2)))))), (ad 3, .inl (kd 3, 4, .inr (.inr (.inr (.inr (gd 3)))))), (ad 4, .inl (kd 4, 5, .inr (.inr (.inr (.inr (gd 4)))))), (ad 5, .inl (kd 5, 60, .inl (fun _ => 0))), (ad 6, .inl (kd 6, 96, .inl (fun _ => 0))), (ad 7, .inr (1, [.ref (ad 6), .ref (ad 8), .int 0, .int 0, .int 0, .int 0, .int 0, .int 0])), (ad 8, .inr (5, [.int 0, .int 0, .int 0, .ref (ad 9), .ref (ad 10)])), (ad 9, .inl (kd 9, 96, .inl (fun _ => 0))), (ad 10, .inl (kd 10, 96, .inl (fun _ => 0))), (ad 11, .inr (5, [.int 0, .int 0, .int 0, .ref (ad 12), .ref (ad 13)])), (ad 12, .inl (kd 12, 96, .inl (fun _ => 0))), (ad 13, .inl (kd 13, 96, .inl (fun _ => 0))), (ad 14, .inr (5, [.int 0, .int 0, .int 0, .ref (ad 15), .ref (ad 16)])), (ad 15, .inl (kd 15, 96, .inl (fun _ => 0))), (ad 16, .inl (kd 16, 96, .inl (fun _ => 0))), (ad 17, .inr (5, [.int 0, .int 0, .int 0, .ref (ad 18), .ref (ad 19)])), (ad 18, .inl (kd 18, 96, .inl (fun _ => 0))), (ad 19, .inl (kd 19, 96, .inl (fun _ => 0))), (ad 20, .inr (5, [.int 0, .int 0, .int 0, .ref (ad 21), .ref (ad 22)])), (ad 21, .inl (kd 21, 96, .inl (fun _ => 0))), (ad 22, .inl (kd 22, 96, .inl (fun _ => 0))), (ad 23, .inr (5, [.int 0, .int 0, .int 0, .ref (ad 24), .ref (ad 25)])), (ad 24, .inl (kd 24, 96, .inl (fun _ => 0))), (ad 25, .inl (kd 25, 96, .inl (fun _ => 0))), (ad 26, .inr (5, [.int 0, .int 0, .int 0, .ref (ad 27), .ref (ad 28)])), (ad 27, .inl (kd 27, 96, .inl (fun _ => 0))), (ad 28, .inl (kd 28, 96, .inl (fun _ => 0))), (ad 29, .inr (5, [.int 0, .int 0, .int 0, .ref (ad 30), .ref (ad 31)])), (ad 30, .inl (kd 30, 96, .inl (fun _ => 0))), (ad 31, .inl (kd 31, 96, .inl (fun _ => 0))), (ad 32, .inr (5, [.int 0, .int 0, .int 0, .ref (ad 33), .ref (ad 34)])), (ad 33, .inl (kd 33, 96, .inl (fun _ => 0))), (ad 34, .inl (kd 34, 96, .inl (fun _ => 0))), (ad 35, .inr (5, [.int 0, .int 0, .int 0, .ref (ad 36), .ref (ad 37)])), (ad 36, .inl (kd 36, 96, .inl (fun _ => 0))), (ad 37, .inl (kd 37, 96, .inl (fun _ => 0))), (ad 38, .inr (5, [.int 0, .int 0, .int 0, .ref (ad 39), .ref (ad 40)])), (ad 39, .inl (kd 39, 96, .inl (fun _ => 0))), (ad 40, .inl (kd 40, 96, .inl (fun _ => 0))), (ad 41, .inr (5, [.int 0, .int 0, .int 0, .ref (ad 42), .ref (ad 43)])), (ad 42, .inl (kd 42, 96, .inl (fun _ => 0))), (ad 43, .inl (kd 43, 96, .inl (fun _ => 0))), (ad 44, .inr (5, [.int 0, .int 0, .int 0, .ref (ad 45), .ref (ad 46)])), (ad 45, .inl (kd 45, 96, .inl (fun _ => 0))), (ad 46, .inl (kd 46, 96, .inl (fun _ => 0))), (ad 47, .inr (5, [.int 0, .int 0, .int 0, .ref (ad 48), .ref (ad 49)])), (ad 48, .inl (kd 48, 96, .inl (fun _ => 0))), (ad 49, .inl (kd 49, 96, .inl (fun _ => 0))), (ad 50, .inr (5, [.int 0, .int 0, .int 0, .ref (ad 51), .ref (ad 52)])), (ad 51, .inl (kd 51, 96, .inl (fun _ => 0))), (ad 52, .inl (kd 52, 96, .inl (fun _ => 0))), (ad 53, .inr (2, [.int (-1), .int 0, .ref (ad 54)])), (ad 54, .inl (kd 54, 24, .inl (fun _ => 0))), (ad 55, .inr (2, [.int (-1), .int 0, .ref (ad 56)])), (ad 56, .inl (kd 56, 24, .inl (fun _ => 0))), (ad 57, .inr (2, [.int (-1), .int 0, .ref (ad 58)])), (ad 58, .inl (kd 58, 24, .inl (fun _ => 0))), (ad 59, .inr (2, [.int (-1), .int 0, .ref (ad 60)])), (ad 60, .inl (kd 60, 24, .inl (fun _ => 0))), (ad 61, .inr (3, [.int 0, .int 0, .ref (ad 62), .ref (ad 63)])), (ad 62, .inr (4, [.int 0, .int 0, .int 0, .int 0])), (ad 63, .inr (2, [.int (-1), .int 0, .ref (ad 64)])), (ad 64, .inl (kd 64, 24, .inl (fun _ => 0))), (ad 65, .inr (3, [.int 0, .int 0, .ref (ad 66), .ref (ad 67)])), (ad 66, .inr (4, [.int 0, .int 0, .int 0, .int 0])), (ad 67, .inr (2, [.int (-1), .int 0, .ref (ad 68)])), (ad 68, .inl (kd 68, 24, .inl (fun _ => 0))), (ad 69, .inr (3, [.int 0, .int 0, .ref (ad 70), .ref (ad 71)])), (ad 70, .inr (4, [.int 0, .int 0, .int 0, .int 0])), (ad 71, .inr (2, [.int (-1), .int 0, .ref (ad 72)])), (ad 72, .inl (kd 72, 24, .inl (fun _ => 0))), (ad 73, .inr (3, [.int 0, .int 0, .ref (ad 74), .ref (ad 75)])), (ad 74, .inr (4, [.int 0, .int 0, .int 0, .int 0])), (ad 75, .inr (2, [.int (-1), .int 0, .ref (ad 76)])), (ad 76, .inl (kd 76, 24, .inl (fun _ => 0))), (ad 77, .inr (3, [.int 0, .int 0, .ref (ad 78), .ref (ad 79)])), (ad 78, .inr (4, [.int 0, .int 0, .int 0, .int 0])), (ad 79, .inr (2, [.int (-1), .int 0, .ref (ad 80)])), (ad 80, .inl (kd 80, 24, .inl (fun _ => 0))), (ad 81, .inr (0, [.ref (ad 1), .ref (ad 82), .ref (ad 83), .int 0, .int 0, .int 3, .int 0, .int 0, .int 10, .int 0, .int 0, .int 0, .int 0, .int 1])), (ad 82, .inl (kd 82, 9, .inr (.inr (.inr (.inr (gd 82)))))), (ad 83, .inl (kd 83, 3, .inl (fd 83))), (ad 84, .inr (4, [.int 0, .int 0, .int 0, .int 0])), (ad 85, .inr (4, [.int 0, .int 0, .int 0, .int 0])), (ad 86, .inr (4, [.int 0, .int 0, .int 0, .int 0])), (ad 87, .inr (4, [.int 0, .int 0, .int 0, .int 0])), (ad 88, .inr (4, [.int 0, .int 0, .int 0, .int 0])), (ad 89, .inr (4, [.int 0, .int 0, .int 0, .int 0])), (ad 90, .inr (4, [.int 0, .int 0, .int 0, .int 0])), (ad 91, .inr (4, [.int 0, .int 0, .int 0, .int 0])), (ad 92, .inr (4, [.int 0, .int 0, .int 0, .int 0])), (ad 93, .inr (0, [.ref (ad 1), .ref (ad 94), .ref (ad 95), .int 0, .int 0, .int 3, .int 0, .int 0, .int 10, .int 0, .int 0, .int 0, .int 0, .int 1])), (ad 94, .inl (kd 94, 9, .inr (.inr (.inr (.inr (gd 94)))))), (ad 95, .inl (kd 95, 3, .inl (fd 95))), (ad 96, .inr (4, [.int 0, .int 0, .int 0, .int 0])), (ad 97, .inr (4, [.int 0, .int 0, .int 0, .int 0])), (ad 98, .inr (4, [.int 0, .int 0, .int 0, .int 0])), (ad 99, .inr (4, [.int 0, .int 0, .int 0, .int 0])), (ad 100, .inr (4, [.int 0, .int 0, .int 0, .int 0])), (ad 101, .inr (4, [.int 0, .int 0, .int 0, .int 0])), (ad 102, .inr (4, [.int 0, .int 0, .int 0, .int 0])), (ad 103, .inr (4, [.int 0, .int 0, .int 0, .int 0])), (ad 104, .inr (4, [.int 0, .int 0, .int 0, .int 0])), (ad 105, .inr (0, [.ref (ad 1), .ref (ad 106), .ref (ad 107), .int 0, .int 0, .int 3, .int 0, .int 0, .int 10, .int 0, .int 0, .int 0, .int 0, .int 1])), (ad 106, .inl (kd 106, 9, .inr (.inr (.inr (.inr (gd 106)))))), (ad 107, .inl (kd 107, 3, .inl (fd 107))), (ad 108, .inr (4, [.int 0, .int 0, .int 0, .int 0])), (ad 109, .inr (4, [.int 0, .int 0, .int 0, .int 0])), (ad 110, .inr (4, [.int 0, .int 0, .int 0, .int 0])), (ad 111, .inr (4, [.int 0, .int 0, .int 0, .int 0])), (ad 112, .inr (4, [.int 0, .int 0, .int 0, .int 0])), (ad 113, .inr (4, [.int 0, .int 0, .int 0, .int 0])), (ad 114, .inr (4, [.int 0, .int 0, .int 0, .int 0])), (ad 115, .inr (4, [.int 0, .int 0, .int 0, .int 0])), (ad 116, .inr (4, [.int 0, .int 0, .int 0, .int 0])), (ad 117, .inr (0, [.ref (ad 1), .ref (ad 118), .ref (ad 119), .int 0, .int 0, .int 3, .int 0, .int 0, .int 10, .int 0, .int 0, .int 0, .int 0, .int 1])), (ad 118, .inl (kd 118, 9, .inr (.inr (.inr (.inr (gd 118)))))), (ad 119, .inl (kd 119, 3, .inl (fd 119))), (ad 120, .inr (4, [.int 0, .int 0, .int 0, .int 0])), (ad 121, .inr (4, [.int 0, .int 0, .int 0, .int 0])), (ad 122, .inr (4, [.int 0, .int 0, .int 0, .int 0])), (ad 123, .inr (4, [.int 0, .int 0, .int 0, .int 0])), (ad 124, .inr (4, [.int 0, .int 0, .int 0, .int 0])), (ad 125, .inr (4, [.int 0, .int 0, .int 0, .int 0])), (ad 126, .inr (4, [.int 0, .int 0, .int 0, .int 0])), (ad 127, .inr (4, [.int 0, .int 0, .int 0, .int 0])), (ad 128, .inr (4, [.int 0, .int 0, .int 0, .int 0])), (ad 129, .inr (0, [.ref (ad 1), .ref (ad 130), .ref (ad 131), .int 0, .int 0, .int 3, .int 0, .int 0, .int 10, .int 0, .int 0, .int 0, .int 0, .int 1])), (ad 130, .inl (kd 130, 9, .inr (.inr (.inr (.inr (gd 130)))))), (ad 131, .inl (kd 131, 3, .inl (fd 131))), (ad 132, .inr (4, [.int 0, .int 0, .int 0, .int 0])), (ad 133, .inr (4, [.int 0, .int 0, .int 0, .int 0])), (ad 134, .inr (4, [.int 0, .int 0, .int 0, .int 0])), (ad 135, .inr (4, [.int 0, .int 0, .int 0, .int 0])), (ad 136, .inr (4, [.int 0, .int 0, .int 0, .int 0])), (ad 137, .inr (4, [.int 0, .int 0, .int 0, .int 0])), (ad 138, .inr (4, [.int 0, .int 0, .int 0, .int 0])), (ad 139, .inr (4, [.int 0, .int 0, .int 0, .int 0])), (ad 140, .inr (4, [.int 0, .int 0, .int 0, .int 0])), (ad 141, .inr (0, [.ref (ad 1), .ref (ad 142), .ref (ad 143), .int 0, .int 0, .int 3, .int 0, .int 0, .int 10, .int 0, .int 0, .int 0, .int 0, .int 1])), (ad 142, .inl (kd 142, 9, .inr (.inr (.inr (.inr (gd 142)))))), (ad 143, .inl (kd 143, 3, .inl (fd 143))), (ad 144, .inr (4, [.int 0, .int 0, .int 0, .int 0])), (ad 145, .inr (4, [.int 0, .int 0, .int 0, .int 0])), (ad 146, .inr (4, [.int 0, .int 0, .int 0, .int 0])), (ad 147, .inr (4, [.int 0, .int 0, .int 0, .int 0])), (ad 148, .inr (4, [.int 0, .int 0, .int 0, .int 0])), (ad 149, .inr (4, [.int 0, .int 0, .int 0, .int 0])), (ad 150, .inr (4, [.int 0, .int 0, .int 0, .int 0])), (ad 151, .inr (4, [.int 0, .int 0, .int 0, .int 0])), (ad 152, .inr (4, [.int 0, .int 0, .int 0, .int 0])), (ad 153, .inr (0, [.ref (ad 1), .ref (ad 154), .ref (ad 155), .int 0, .int 0, .int 3, .int 0, .int 0, .int 10, .int 0, .int 0, .int 0, .int 0, .int 1])), (ad 154, .inl (kd 154, 9, .inr (.inr (.inr (.inr (gd 154)))))), (ad 155, .inl (kd 155, 3, .inl (fd 155))), (ad 156, .inr (4, [.int 0, .int 0, .int 0, .int 0])), (ad 157, .inr (4, [.int 0, .int 0, .int 0, .int 0])), (ad 158, .inr (4, [.int 0, .int 0, .int 0, .int 0])), (ad 159, .inr (4, [.int 0, .int 0, .int 0, .int 0])), (ad 160, .inr (4, [.int 0, .int 0, .int 0, .int 0])), (ad 161, .inr (4, [.int 0, .int 0, .int 0, .int 0])), (ad 162, .inr (4, [.int 0, .int 0, .int 0, .int 0])), (ad 163, .inr (4, [.int 0, .int 0, .int 0, .int 0])), (ad 164, .inr (4, [.int 0, .int 0, .int 0, .int 0])), (ad 165, .inr (0, [.ref (ad 1), .ref (ad 166), .ref (ad 167), .int 0, .int 0, .int 3, .int 0, .int 0, .int 10, .int 0, .int 0, .int 0, .int 0, .int 1])), (ad 166, .inl (kd 166, 9, .inr (.inr (.inr (.inr (gd 166)))))), (ad 167, .inl (kd 167, 3, .inl (fd 167))), (ad 168, .inr (4, [.int 0, .int 0, .int 0, .int 0])), (ad 169, .inr (4, [.int 0, .int 0, .int 0, .int 0])), (ad 170, .inr (4, [.int 0, .int 0, .int 0, .int 0])), (ad 171, .inr (4, [.int 0, .int 0, .int 0, .int 0])), (ad 172, .inr (4, [.int 0, .int 0, .int 0, .int 0])), (ad 173, .inr (4, [.int 0, .int 0, .int 0, .int 0])), (ad 174, .inr (4, [.int 0, .int 0, .int 0, .int 0])), (ad 175, .inr (4, [.int 0, .int 0, .int 0, .int 0])), (ad 176, .inr (4, [.int 0, .int 0, .int 0, .int 0])), (ad 177, .inr (0, [.ref (ad 1), .ref (ad 178), .ref (ad 179), .int 0, .int 0, .int 3, .int 0, .int 0, .int 10, .int 0, .int 0, .int 0, .int 0, .int 1])), (ad 178, .inl (kd 178, 9, .inr (.inr (.inr (.inr (gd 178)))))), (ad 179, .inl (kd 179, 3, .inl (fd 179))), (ad 180, .inr (4, [.int 0, .int 0, .int 0, .int 0])), (ad 181, .inr (4, [.int 0, .int 0, .int 0, .int 0])), (ad 182, .inr (4, [.int 0, .int 0, .int 0, .int 0])), (ad 183, .inr (4, [.int 0, .int 0, .int 0, .int 0])), (ad 184, .inr (4, [.int 0, .int 0, .int 0, .int 0])), (ad 185, .inr (4, [.int 0, .int 0, .int 0, .int 0])), (ad 186, .inr (4, [.int 0, .int 0, .int 0, .int 0])), (ad 187, .inr (4, [.int 0, .int 0, .int 0, .int 0])), (ad 188, .inr (4, [.int 0, .int 0, .int 0, .int 0]))] [(kd 1, .object RX5), (kd 2, .object RX0), (kd 3, .object RX2), (kd 4, .object RX3), (kd 5, .int), (kd 6, .int), (kd 9, .int), (kd 10, .int), (kd 12, .int), (kd 13, .int), (kd 15, .int), (kd 16, .int), (kd 18, .int), (kd 19, .int), (kd 21, .int), (kd 22, .int), (kd 24, .int), (kd 25, .int), (kd 27, .int), (kd 28, .int), (kd 30, .int), (kd 31, .int), (kd 33, .int), (kd 34, .int), (kd 36, .int), (kd 37, .int), (kd 39, .int), (kd 40, .int), (kd 42, .int), (kd 43, .int), (kd 45, .int), (kd 46, .int), (kd 48, .int), (kd 49, .int), (kd 51, .int), (kd 52, .int), (kd 54, .int), (kd 56, .int), (kd 58, .int), (kd 60, .int), (kd 64, .int), (kd 68, .int), (kd 72, .int), (kd 76, .int), (kd 80, .int), (kd 82, .object RX4), (kd 83, .int), (kd 94, .object RX4), (kd 95, .int), (kd 106, .object RX4), (kd 107, .int), (kd 118, .object RX4), (kd 119, .int), (kd 130, .object RX4), (kd 131, .int), (kd 142, .object RX4), (kd 143, .int), (kd 154, .object RX4), (kd 155, .int), (kd 166, .object RX4), (kd 167, .int), (kd 178, .object RX4), (kd 179, .int)] H locs) : zz_S D V A s (zg_W XL ad (xcA kd) (x0 fd)) (zg_T XL (xcA kd)) H locs := by
  obtain ⟨u0, u1, u2, u3, u4, u5, u6, u7, u8, u9, u10, u11, u12, u13, u14, u15, u16, u17, u18, u19, u20, u21, u22, u23, u24, u25, u26, u27, u28, u29, u30, u31, u32, u33, u34, u35, u36, u37, u38, u39, u40, u41, u42, u43, u44, u45, u46, u47, u48, u49, u50, u51, u52, u53, u54, u55, u56, u57, u58, u59, u60, u61, u62, u63, u64, u65, u66, u67, u68, u69, u70, u71, u72, u73, u74, u75, u76, u77, u78, u79, u80, u81, u82, u83, u84, u85, u86, u87, u88, u89, u90, u91, u92, u93, u94, u95, u96, u97, u98, u99, u100, u101, u102, u103, u104, u105, u106, u107, u108, u109, u110, u111, u112, u113, u114, u115, u116, u117, u118, u119, u120, u121, u122, u123, u124, u125, u126, u127, u128, u129, u130, u131, u132, u133, u134, u135, u136⟩ := h
  replace Z := Z.fn (f' := fun j => some (ad (zg_ra 9 1 j))) 1 rfl (by
    intro j hj
    rcases (show j = 0 ∨ j = 1 ∨ j = 2 ∨ j = 3 ∨ j = 4 ∨ j = 5 ∨ j = 6 ∨ j = 7 ∨ j = 8 ∨ j = 9 ∨ j = 10 ∨ j = 11 ∨ j = 12 ∨ j = 13 by omega) with rfl | rfl | rfl | rfl | rfl | rfl | rfl | rfl | rfl | rfl | rfl | rfl | rfl | rfl
    · exact zrf_inj u0
    · exact zrf_inj u1
    · exact zrf_inj u2
    · exact zrf_inj u3
    · exact zrf_inj u4
    · exact zrf_inj u5
    · exact zrf_inj u6
    · exact zrf_inj u7
    · exact zrf_inj u8
    · exact zrf_inj u9
    · exact zrf_inj u10
    · exact zrf_inj u11
    · exact zrf_inj u12
    · exact zrf_inj u13)
  replace Z := Z.fn (f' := fun j => some (ad (zg_ra 10 2 j))) 2 rfl (by
    intro j hj
    rcases (show j = 0 ∨ j = 1 ∨ j = 2 ∨ j = 3 ∨ j = 4 ∨ j = 5 by omega) with rfl | rfl | rfl | rfl | rfl | rfl
    · exact zrf_inj u14
    · exact zrf_inj u15
    · exact zrf_inj u16
    · exact zrf_inj u17
    · exact zrf_inj u18
    · exact zrf_inj u19)
  replace Z := Z.fn (f' := fun j => some (ad (zg_ra 12 3 j))) 3 rfl (by
    intro j hj
    rcases (show j = 0 ∨ j = 1 ∨ j = 2 ∨ j = 3 by omega) with rfl | rfl | rfl | rfl
    · exact zrf_inj u20
    · exact zrf_inj u21
    · exact zrf_inj u22
    · exact zrf_inj u23)
  replace Z := Z.fn (f' := fun j => some (ad (zg_ra 13 4 j))) 4 rfl (by
    intro j hj
    rcases (show j = 0 ∨ j = 1 ∨ j = 2 ∨ j = 3 ∨ j = 4 by omega) with rfl | rfl | rfl | rfl | rfl
    · exact zrf_inj u24
    · exact zrf_inj u25
    · exact zrf_inj u26
    · exact zrf_inj u27
    · exact zrf_inj u28)
  replace Z := Z.fn (f' := fun j => some (ad (zg_ra 11 82 j))) 82 rfl (by
    intro j hj
    rcases (show j = 0 ∨ j = 1 ∨ j = 2 ∨ j = 3 ∨ j = 4 ∨ j = 5 ∨ j = 6 ∨ j = 7 ∨ j = 8 by omega) with rfl | rfl | rfl | rfl | rfl | rfl | rfl | rfl | rfl
    · exact zrf_inj u29
    · exact zrf_inj u30
    · exact zrf_inj u31
    · exact zrf_inj u32
    · exact zrf_inj u33
    · exact zrf_inj u34
    · exact zrf_inj u35
    · exact zrf_inj u36
    · exact zrf_inj u37)
  replace Z := Z.fn (f' := fun j => some (ad (zg_ra 11 94 j))) 94 rfl (by
    intro j hj
    rcases (show j = 0 ∨ j = 1 ∨ j = 2 ∨ j = 3 ∨ j = 4 ∨ j = 5 ∨ j = 6 ∨ j = 7 ∨ j = 8 by omega) with rfl | rfl | rfl | rfl | rfl | rfl | rfl | rfl | rfl
    · exact zrf_inj u41
    · exact zrf_inj u42
    · exact zrf_inj u43
    · exact zrf_inj u44
    · exact zrf_inj u45
    · exact zrf_inj u46
    · exact zrf_inj u47
    · exact zrf_inj u48
    · exact zrf_inj u49)
  replace Z := Z.fn (f' := fun j => some (ad (zg_ra 11 106 j))) 106 rfl (by
    intro j hj
    rcases (show j = 0 ∨ j = 1 ∨ j = 2 ∨ j = 3 ∨ j = 4 ∨ j = 5 ∨ j = 6 ∨ j = 7 ∨ j = 8 by omega) with rfl | rfl | rfl | rfl | rfl | rfl | rfl | rfl | rfl
    · exact zrf_inj u53
    · exact zrf_inj u54
    · exact zrf_inj u55
    · exact zrf_inj u56
    · exact zrf_inj u57
    · exact zrf_inj u58
    · exact zrf_inj u59
    · exact zrf_inj u60
    · exact zrf_inj u61)
  replace Z := Z.fn (f' := fun j => some (ad (zg_ra 11 118 j))) 118 rfl (by
    intro j hj
    rcases (show j = 0 ∨ j = 1 ∨ j = 2 ∨ j = 3 ∨ j = 4 ∨ j = 5 ∨ j = 6 ∨ j = 7 ∨ j = 8 by omega) with rfl | rfl | rfl | rfl | rfl | rfl | rfl | rfl | rfl
    · exact zrf_inj u65
    · exact zrf_inj u66
    · exact zrf_inj u67
    · exact zrf_inj u68
    · exact zrf_inj u69
    · exact zrf_inj u70
    · exact zrf_inj u71
    · exact zrf_inj u72
    · exact zrf_inj u73)
  replace Z := Z.fn (f' := fun j => some (ad (zg_ra 11 130 j))) 130 rfl (by
    intro j hj
    rcases (show j = 0 ∨ j = 1 ∨ j = 2 ∨ j = 3 ∨ j = 4 ∨ j = 5 ∨ j = 6 ∨ j = 7 ∨ j = 8 by omega) with rfl | rfl | rfl | rfl | rfl | rfl | rfl | rfl | rfl
    · exact zrf_inj u77
    · exact zrf_inj u78
    · exact zrf_inj u79
    · exact zrf_inj u80
    · exact zrf_inj u81
    · exact zrf_inj u82
    · exact zrf_inj u83
    · exact zrf_inj u84
    · exact zrf_inj u85)
  replace Z := Z.fn (f' := fun j => some (ad (zg_ra 11 142 j))) 142 rfl (by
    intro j hj
    rcases (show j = 0 ∨ j = 1 ∨ j = 2 ∨ j = 3 ∨ j = 4 ∨ j = 5 ∨ j = 6 ∨ j = 7 ∨ j = 8 by omega) with rfl | rfl | rfl | rfl | rfl | rfl | rfl | rfl | rfl
    · exact zrf_inj u89
    · exact zrf_inj u90
    · exact zrf_inj u91
    · exact zrf_inj u92
    · exact zrf_inj u93
    · exact zrf_inj u94
    · exact zrf_inj u95
    · exact zrf_inj u96
    · exact zrf_inj u97)
  replace Z := Z.fn (f' := fun j => some (ad (zg_ra 11 154 j))) 154 rfl (by
    intro j hj
    rcases (show j = 0 ∨ j = 1 ∨ j = 2 ∨ j = 3 ∨ j = 4 ∨ j = 5 ∨ j = 6 ∨ j = 7 ∨ j = 8 by omega) with rfl | rfl | rfl | rfl | rfl | rfl | rfl | rfl | rfl
    · exact zrf_inj u101
    · exact zrf_inj u102
    · exact zrf_inj u103
    · exact zrf_inj u104
    · exact zrf_inj u105
    · exact zrf_inj u106
    · exact zrf_inj u107
    · exact zrf_inj u108
    · exact zrf_inj u109)
  replace Z := Z.fn (f' := fun j => some (ad (zg_ra 11 166 j))) 166 rfl (by
    intro j hj
    rcases (show j = 0 ∨ j = 1 ∨ j = 2 ∨ j = 3 ∨ j = 4 ∨ j = 5 ∨ j = 6 ∨ j = 7 ∨ j = 8 by omega) with rfl | rfl | rfl | rfl | rfl | rfl | rfl | rfl | rfl
    · exact zrf_inj u113
    · exact zrf_inj u114
    · exact zrf_inj u115
    · exact zrf_inj u116
    · exact zrf_inj u117
    · exact zrf_inj u118
    · exact zrf_inj u119
    · exact zrf_inj u120
    · exact zrf_inj u121)
  replace Z := Z.fn (f' := fun j => some (ad (zg_ra 11 178 j))) 178 rfl (by
    intro j hj
    rcases (show j = 0 ∨ j = 1 ∨ j = 2 ∨ j = 3 ∨ j = 4 ∨ j = 5 ∨ j = 6 ∨ j = 7 ∨ j = 8 by omega) with rfl | rfl | rfl | rfl | rfl | rfl | rfl | rfl | rfl
    · exact zrf_inj u125
    · exact zrf_inj u126
    · exact zrf_inj u127
    · exact zrf_inj u128
    · exact zrf_inj u129
    · exact zrf_inj u130
    · exact zrf_inj u131
    · exact zrf_inj u132
    · exact zrf_inj u133)
  refine Z.cast ?_ [5, 0, 1, 2, 3, 4, 5, 5, 5, 6, 7, 5, 8, 9, 5, 10, 11, 5, 12, 13, 5, 14, 15, 5, 16, 17, 5, 18, 19, 5, 20, 21, 5, 22, 23, 5, 24, 25, 5, 26, 27, 5, 28, 29, 5, 30, 31, 5, 32, 33, 5, 34, 35, 5, 36, 5, 37, 5, 38, 5, 39, 5, 5, 5, 40, 5, 5, 5, 41, 5, 5, 5, 42, 5, 5, 5, 43, 5, 5, 5, 44, 5, 45, 46, 5, 5, 5, 5, 5, 5, 5, 5, 5, 5, 47, 48, 5, 5, 5, 5, 5, 5, 5, 5, 5, 5, 49, 50, 5, 5, 5, 5, 5, 5, 5, 5, 5, 5, 51, 52, 5, 5, 5, 5, 5, 5, 5, 5, 5, 5, 53, 54, 5, 5, 5, 5, 5, 5, 5, 5, 5, 5, 55, 56, 5, 5, 5, 5, 5, 5, 5, 5, 5, 5, 57, 58, 5, 5, 5, 5, 5, 5, 5, 5, 5, 5, 59, 60, 5, 5, 5, 5, 5, 5, 5, 5, 5, 5, 61, 62, 5, 5, 5, 5, 5, 5, 5, 5, 5] rfl
  rw [one_list]
  rfl
def ini2 (fd : Nat → Nat → Int32) : Prop := fd 1 0 = 0 ∧ fd 1 1 = 0 ∧ fd 1 2 = 0 ∧ fd 1 3 = 0 ∧ fd 1 4 = 0 ∧ fd 1 5 = 0 ∧ fd 1 6 = 1 ∧ fd 1 7 = 0 ∧ fd 1 8 = 3 ∧ fd 1 9 = 10 ∧ fd 1 10 = 0 ∧ fd 1 11 = 0 ∧ fd 4 0 = (-1) ∧ fd 4 1 = (-1) ∧ fd 4 2 = (-1) ∧ fd 4 3 = (-1)
