/-! best: what the leaves are -/
def dg (c : Nat) : Int32 := if c % 3 = 0 then 0 else if c % 3 = 1 then 1 else 2
theorem dg_m (c : Nat) : dg c = 0 ∨ dg c = 1 ∨ dg c = 2 := by
  unfold dg
  by_cases a : c % 3 = 0
  · rw [if_pos a]; exact Or.inl rfl
  · rw [if_neg a]
    by_cases b : c % 3 = 1
    · rw [if_pos b]; exact Or.inr (Or.inl rfl)
    · rw [if_neg b]; exact Or.inr (Or.inr rfl)
/-- after n hours, hauled by the n digits of c -/
def sLf (g : Nat → Int32) : Nat → Nat → Nat → Int32
  | 0, _ => g
  | n + 1, c => sHr (sLf g n (c / 3)) (sTo (sLf g n (c / 3)) (dg c))
theorem sLf_ok {g : Nat → Int32} (o : gOK g) (hC : gC g) : ∀ n c : Nat, (g 2).toInt + n ≤ 20000 → gOK (sLf g n c) ∧ gC (sLf g n c) ∧ (sLf g n c 2).toInt = (g 2).toInt + n ∧ STx g (sLf g n c) ∧ sLf g n c 0 = g 0 := by
  obtain ⟨n0, n2, _⟩ := id o.1
  have e1 := zt_1
  intro n
  induction n with
  | zero => intro c _; exact ⟨o, hC, by show (g 2).toInt = _; omega, STx.rf, rfl⟩
  | succ n ih =>
    intro x hn
    obtain ⟨a, b, c, d, e⟩ := ih (x / 3) (by omega)
    have m0 := a.1.1
    have ea := zTe (zTadd (zTs (sLf g n (x / 3) 2)) (zTl zt_1) (by omega) (by omega))
    have hto := sTo_b a.1 (dg x)
    have hc := sHr_C a b (by omega) hto
    refine ⟨sHr_ok a (by omega) hto, hc.1, ?_, d.tr (sHr_st m0), (sHr_c m0 (by decide)).trans e⟩
    show (sHr (sLf g n (x / 3)) _ 2).toInt = _
    rw [sHr_2 m0, ea]
    omega
/-- what is spoilt never shrinks below a node -/
theorem sLf_le {g : Nat → Int32} (o : gOK g) (hC : gC g) (d : Nat) : ∀ n c : Nat, (g 2).toInt + (d + n : Nat) ≤ 20000 → (sLf g d (c / 3 ^ n) 4).toInt ≤ (sLf g (d + n) c 4).toInt := by
  intro n
  induction n with
  | zero => intro c _; rw [Nat.pow_zero, Nat.div_one]; exact Int.le_refl _
  | succ n ih =>
    intro c hn
    obtain ⟨a, b, e, _, _⟩ := sLf_ok o hC (d + n) (c / 3) (by omega)
    have hc := sHr_C a b (by omega) (sTo_b a.1 (dg c))
    have h := ih (c / 3) (by omega)
    rw [Nat.div_div_eq_div_mul, show 3 * 3 ^ n = 3 ^ (n + 1) by rw [Nat.pow_succ, Nat.mul_comm]] at h
    exact Int.le_trans h hc.2
/-- the best of the first N leaves: the first of the least -/
def bsF (V : Nat → Int32) (N : Nat) (bc bv : Int32) : Prop := (N = 0 ∧ bv = 2147483647) ∨ ∃ c : Nat, c < N ∧ bc.toInt = c ∧ bv = V c ∧ (∀ j, j < c → (V c).toInt < (V j).toInt) ∧ ∀ j, j < N → (V c).toInt ≤ (V j).toInt
theorem bsF_u {V : Nat → Int32} {N : Nat} {a b a' b' : Int32} (hN : 0 < N) (h : bsF V N a b) (h' : bsF V N a' b') : a = a' ∧ b = b' := by
  rcases h with ⟨z, _⟩ | ⟨c, c1, c2, c3, c4, c5⟩
  · omega
  rcases h' with ⟨z, _⟩ | ⟨d, d1, d2, d3, d4, d5⟩
  · omega
  have e : c = d := by
    by_cases l : c < d
    · have := d4 c l
      have := c5 d d1
      omega
    · by_cases l2 : d < c
      · have := c4 d l2
        have := d5 c c1
        omega
      · omega
  subst e
  exact ⟨Int32.toInt_inj.mp (c2.trans d2.symm), c3.trans d3.symm⟩
/-- leaves that are no better change nothing -/
theorem bsF_skip {V : Nat → Int32} {N M : Nat} {a b : Int32} (h : bsF V N a b) (hN : N ≤ M) (h0 : N = 0 → N = M) (hb : ∀ j, N ≤ j → j < M → b.toInt ≤ (V j).toInt) : bsF V M a b := by
  rcases h with ⟨z, w⟩ | ⟨c, c1, c2, c3, c4, c5⟩
  · exact Or.inl ⟨by have := h0 z; omega, w⟩
  · refine Or.inr ⟨c, by omega, c2, c3, c4, fun j hj => ?_⟩
    by_cases l : j < N
    · exact c5 j l
    · have := hb j (by omega) hj
      rw [c3] at this
      exact this
theorem bsF_take {V : Nat → Int32} {N : Nat} {a b x : Int32} (h : bsF V N a b) (hx : x.toInt = N) (hv : (V N).toInt < b.toInt) : bsF V (N + 1) x (V N) := by
  refine Or.inr ⟨N, by omega, hx, rfl, fun j hj => ?_, fun j hj => ?_⟩
  · rcases h with ⟨z, w⟩ | ⟨c, c1, c2, c3, c4, c5⟩
    · omega
    · have := c5 j hj
      rw [c3] at hv
      omega
  · by_cases e : j = N
    · subst e; exact Int.le_refl _
    · rcases h with ⟨z, w⟩ | ⟨c, c1, c2, c3, c4, c5⟩
      · omega
      · have := c5 j (by omega)
        rw [c3] at hv
        omega
