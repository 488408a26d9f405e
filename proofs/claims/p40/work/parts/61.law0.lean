theorem lw_add (n k : Nat) : nI n + Int32.ofNat k = nI (n + k) := (Int32.ofNat_add n k).symm
theorem zl_left (P Q : va_W) : (List.range P.length).map (fun i => (P ++ Q)[i]?) = P.map some := by
  rw [← zrange P]
  apply List.map_congr_left
  intro i hi
  rw [List.mem_range] at hi
  exact List.getElem?_append_left hi
theorem zl_right (P Q : va_W) : ((List.range Q.length).map (fun i => P.length + i)).map (fun i => (P ++ Q)[i]?) = Q.map some := by
  rw [← zrange Q, List.map_map]
  apply List.map_congr_left
  intro i hi
  show (P ++ Q)[P.length + i]? = Q[i]?
  rw [List.getElem?_append_right (by omega)]
  congr 1
  omega
theorem zfm_congr {α β : Type} {f g : α → Option β} : ∀ l : List α, (∀ x ∈ l, f x = g x) → l.filterMap f = l.filterMap g := by
  intro l
  induction l with
  | nil => intro _; rfl
  | cons a l ih =>
    intro h
    rw [List.filterMap_cons, List.filterMap_cons, h a List.mem_cons_self, ih (fun x hx => h x (List.mem_cons_of_mem _ hx))]
theorem zl_leftT (P Q : List (ClassId × FieldType)) : (List.range P.length).filterMap (fun i => (P ++ Q)[i]?) = P := by
  have h : ∀ i ∈ List.range P.length, (P ++ Q)[i]? = P[i]? := fun i hi => List.getElem?_append_left (List.mem_range.mp hi)
  rw [zfm_congr _ h]
  exact zrangeT P
theorem zl_rightT (P Q : List (ClassId × FieldType)) : ((List.range Q.length).map (fun i => P.length + i)).filterMap (fun i => (P ++ Q)[i]?) = Q := by
  rw [List.filterMap_map]
  have h : ∀ i ∈ List.range Q.length, ((fun i => (P ++ Q)[i]?) ∘ fun i => P.length + i) i = Q[i]? := fun i hi => by
    show (P ++ Q)[P.length + i]? = Q[i]?
    rw [List.getElem?_append_right (by omega)]
    congr 1
    omega
  rw [zfm_congr _ h]
  exact zrangeT Q
theorem zl_nd (m n : Nat) : va_nd ((List.range n).map (fun i => m + i)) = true := by
  apply znd_of
  rw [← List.range'_eq_map_range]
  exact List.nodup_range'
theorem zl_dis (m n : Nat) : ((List.range n).map (fun i => m + i)).all (fun i => !(List.range m).contains i) = true := by
  rw [List.all_eq_true]
  intro i hi
  rw [List.mem_map] at hi
  obtain ⟨j, -, rfl⟩ := hi
  simp
theorem zl_dis2 (m n : Nat) : (List.range m).all (fun i => !((List.range n).map (fun i => m + i)).contains i) = true := by
  rw [List.all_eq_true]
  intro i hi
  rw [List.mem_range] at hi
  simp
  omega
section
variable {p : Program} {l : Launch} {e : Env} {R : Room} {s : State} {m : MethodId} {args : Array Value} {below : List Frame} {meth : Method} {c : Code} {H : Heap} {locs : List Loc} {cells slots : Nat} {Q : State → Prop}
variable {pc : Nat} {ls : Array Slot} {rest st0 : List Value} {D : va_G} {V : zz_V} {A : Nat → Prop}
/-- a call on the front part of the world; what came back stands behind the rest -/
theorem zy_cf {WA WB WA1 : va_W} {TA TB TA1 : List (ClassId × FieldType)} {r0 : Int32} {av : Array Value} (Z : zz_S D V A s (WA ++ WB) (TA ++ TB) H locs) (hr : zz_S D V A s WA TA H locs → va_Run p l e R s m args below meth c H locs cells slots 0 0 (F0 m pc ls st0) rest (va_Qi (fun r (_ : Unit) => r = r0) (fun _ t => zz_B D (va_A WA H.size) WA1 TA1 t) (va_A WA H.size) av) (va_A WA H.size))
    (kk : ∀ (H : Heap) (locs : List Loc), zz_S D V A s (WB ++ WA1) (TB ++ TA1) H locs → W p l e R s m args below meth c H locs cells slots Q (F0 m (pc + 3) ls (.int r0 :: rest))) : W p l e R s m args below meth c H locs cells slots Q (F0 m pc ls st0) := by
  refine zz_ci (WC := WA) (TC := TA) (WR := WB) (TR := TB) (k := cells) (n := slots) (post := fun r (_ : Unit) => r = r0) (WF := fun _ => WA1) (TF := fun _ => TA1) Z (List.range WA.length) ((List.range WB.length).map (fun i => WA.length + i)) (List.range TA.length) ((List.range TB.length).map (fun i => TA.length + i)) (zl_left WA WB) (zl_right WA WB) (znd _) (zl_nd _ _) (zl_dis _ _) (zl_leftT TA TB) (zl_rightT TA TB) hr rfl rfl (fun r u H1 l1 hp Z1 => ?_)
  subst hp
  exact kk H1 l1 Z1
/-- a call on what was made last -/
theorem zy_cs {S : Type} {post : S → Prop} {WF : S → va_W} {TF : S → List (ClassId × FieldType)} {WC WR : va_W} {TR : List (ClassId × FieldType)} {mc ms k n : Nat} {av : Array Value} (Z : zz_S D V A s (WR ++ WC) TR H locs) (hr : zz_S D V A s WC [] H locs → va_Run p l e R s m args below meth c H locs cells slots mc ms (F0 m pc ls st0) rest (va_Qv post (fun u t => zz_B D (va_A WC H.size) (WF u) (TF u) t) (va_A WC H.size) av) (va_A WC H.size)) (h1 : cells + mc = k) (h2 : slots + ms = n)
    (kk : ∀ (u : S) (H : Heap) (locs : List Loc), post u → zz_S D V A s (WR ++ WF u) (TR ++ TF u) H locs → W p l e R s m args below meth c H locs k n Q (F0 m (pc + 3) ls rest)) : W p l e R s m args below meth c H locs cells slots Q (F0 m pc ls st0) :=
  zz_cv (WC := WC) (TC := []) (WR := WR) (TR := TR) Z ((List.range WC.length).map (fun i => WR.length + i)) (List.range WR.length) [] (List.range TR.length) (zl_right WR WC) (zl_left WR WC) (zl_nd _ _) (znd _) (zl_dis2 _ _) rfl (zrangeT TR) hr h1 h2 kk
theorem zs_app {P W1 W2 : va_W} {TP T1 T2 : List (ClassId × FieldType)} (Z : zz_S D V A s (P ++ W1) (TP ++ T1) H locs) (hw : W1 = W2) (ts : List Nat) (ht : ts.filterMap (fun i => T1[i]?) = T2) : zz_S D V A s (P ++ W2) (TP ++ T2) H locs := by
  subst hw
  refine ⟨Z.1, Z.2.1, ⟨Z.2.2.1.1, fun k q hk => ?_⟩, Z.2.2.2⟩
  have hm : q ∈ TP ++ T2 := List.mem_of_getElem? hk
  have hm' : q ∈ TP ++ T1 := by
    rcases List.mem_append.mp hm with h | h
    · exact List.mem_append.mpr (Or.inl h)
    · rw [← ht] at h
      obtain ⟨i, -, hi⟩ := List.mem_filterMap.mp h
      exact List.mem_append.mpr (Or.inr (List.mem_of_getElem? hi))
  obtain ⟨k', hk'⟩ := List.getElem?_of_mem hm'
  exact Z.2.2.1.2 k' q hk'
end
