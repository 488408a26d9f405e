def zrb1 (c : ByteArray) (pc op : Nat) : Bool := match c.data.toList.drop pc with
  | x :: _ => Nat.beq x.toNat op
  | _ => false
def zrb2 (c : ByteArray) (pc op a : Nat) : Bool := match c.data.toList.drop pc with
  | x :: y :: _ => Nat.beq x.toNat op && Nat.beq y.toNat a
  | _ => false
def zrb3 (c : ByteArray) (pc op a b : Nat) : Bool := match c.data.toList.drop pc with
  | x :: y :: z :: _ => Nat.beq x.toNat op && (Nat.beq y.toNat a && Nat.beq z.toNat b)
  | _ => false
theorem zrd {c : ByteArray} {p : Nat} {x : UInt8} {t : List UInt8} (h : c.data.toList.drop p = x :: t) : (Jvm.ClassFile.Reader.u1 : Jvm.ClassFile.Decoder Nat) c p = Except.ok (x.toNat, p + 1) ∧ c.data.toList.drop (p + 1) = t := by
  obtain ⟨⟨l⟩⟩ := c
  change l.drop p = x :: t at h
  change _ ∧ l.drop (p + 1) = t
  have hl : p < l.length := by
    have k := congrArg List.length h
    rw [List.length_drop, List.length_cons] at k
    omega
  rw [List.drop_eq_getElem_cons hl] at h
  obtain ⟨hx, ht⟩ := List.cons.inj h
  have hp : p < (ByteArray.mk (Array.mk l)).size := hl
  have hg : (ByteArray.mk (Array.mk l))[p]'hp = x := hx
  refine ⟨?_, ht⟩
  have k : (Jvm.ClassFile.Reader.u1 : Jvm.ClassFile.Decoder Nat) (ByteArray.mk (Array.mk l)) p = (if h : p < (ByteArray.mk (Array.mk l)).size then (do set (p + 1); Pure.pure ((ByteArray.mk (Array.mk l))[p]'h).toNat : Jvm.ClassFile.Decoder Nat) else throw (Jvm.ClassFile.HasTruncated.truncated p)) (ByteArray.mk (Array.mk l)) p := rfl
  rw [k, dif_pos hp, hg]
  rfl
theorem zrbind {α β : Type} {r : Jvm.ClassFile.Decoder α} {f : α → Jvm.ClassFile.Decoder β} {c : ByteArray} {p q : Nat} {v : α} (h : r c p = Except.ok (v, q)) : (r >>= f) c p = f v c q := by
  have k : (r >>= f) c p = Except.bind (r c p) (fun z => f z.1 c z.2) := rfl
  rw [k, h]
  rfl
theorem zrs {g : Nat → Int} {c : ByteArray} {p q v : Nat} {r : Jvm.ClassFile.Decoder Nat} (h : r c p = Except.ok (v, q)) : (g <$> r : Jvm.ClassFile.Decoder Int) c p = Except.ok (g v, q) := by
  have k : (g <$> r : Jvm.ClassFile.Decoder Int) c p = Except.bind (r c p) (fun z => Except.ok (g z.1, z.2)) := rfl
  rw [k, h]
  rfl
theorem zru2 {c : ByteArray} {p a b : Nat} (h1 : (Jvm.ClassFile.Reader.u1 : Jvm.ClassFile.Decoder Nat) c p = Except.ok (a, p + 1)) (h2 : (Jvm.ClassFile.Reader.u1 : Jvm.ClassFile.Decoder Nat) c (p + 1) = Except.ok (b, p + 1 + 1)) : (Jvm.ClassFile.Reader.u2 : Jvm.ClassFile.Decoder Nat) c p = Except.ok (a * 256 + b, p + 1 + 1) :=
  (zrbind (f := fun hi => (Jvm.ClassFile.Reader.u1 : Jvm.ClassFile.Decoder Nat) >>= fun lo => Pure.pure (hi * 256 + lo)) h1).trans ((zrbind (f := fun lo => Pure.pure (a * 256 + lo)) h2).trans rfl)
theorem zdec {c : ByteArray} {pc q n : Nat} {I : Instr} (h : (Jvm.ClassFile.Decoder.instr pc) c pc = Except.ok (I, q)) (hn : q - pc = n) : decode c pc = .ok (I, n) := by
  have k : decode c pc = Except.bind ((Jvm.ClassFile.Decoder.instr pc) c pc) (fun z => Except.ok (z.1, z.2 - pc)) := rfl
  rw [k, h, ← hn]
  rfl
theorem zdk1 {c : ByteArray} {pc op : Nat} {I : Instr} {f : Nat → Jvm.ClassFile.Decoder Instr} (hf : Jvm.ClassFile.Decoder.instr pc = Jvm.ClassFile.Reader.u1 >>= f) (e : f op = Pure.pure I) (h : zrb1 c pc op = true) : decode c pc = .ok (I, 1) := by
  unfold zrb1 at h
  split at h
  · next x t hd =>
    have hx : x.toNat = op := Nat.eq_of_beq_eq_true h
    obtain ⟨h1, -⟩ := zrd hd
    refine zdec (q := pc + 1) ?_ (by omega)
    rw [hf, zrbind h1, hx, e]
    rfl
  · exact absurd h (by decide)
theorem zdk2 {c : ByteArray} {pc op a : Nat} {α : Type} {r : Jvm.ClassFile.Decoder α} {v : α} {g : α → Instr} {f : Nat → Jvm.ClassFile.Decoder Instr} (hf : Jvm.ClassFile.Decoder.instr pc = Jvm.ClassFile.Reader.u1 >>= f) (e : f op = (r >>= fun x => Pure.pure (g x)))
    (hr : ∀ p, (Jvm.ClassFile.Reader.u1 : Jvm.ClassFile.Decoder Nat) c p = Except.ok (a, p + 1) → r c p = Except.ok (v, p + 1)) (h : zrb2 c pc op a = true) : decode c pc = .ok (g v, 2) := by
  unfold zrb2 at h
  split at h
  · next x y t hd =>
    have h' := Bool.and_eq_true_iff.mp h
    have hx : x.toNat = op := Nat.eq_of_beq_eq_true h'.1
    have hy : y.toNat = a := Nat.eq_of_beq_eq_true h'.2
    obtain ⟨h1, hd1⟩ := zrd hd
    obtain ⟨h2, -⟩ := zrd hd1
    rw [hy] at h2
    refine zdec (q := pc + 1 + 1) ?_ (by omega)
    rw [hf, zrbind h1, hx, e, zrbind (hr _ h2)]
    rfl
  · exact absurd h (by decide)
theorem zdk3 {c : ByteArray} {pc op a b : Nat} {α : Type} {r : Jvm.ClassFile.Decoder α} {v : α} {g : α → Instr} {f : Nat → Jvm.ClassFile.Decoder Instr} (hf : Jvm.ClassFile.Decoder.instr pc = Jvm.ClassFile.Reader.u1 >>= f) (e : f op = (r >>= fun x => Pure.pure (g x)))
    (hr : ∀ p, (Jvm.ClassFile.Reader.u2 : Jvm.ClassFile.Decoder Nat) c p = Except.ok (a * 256 + b, p + 1 + 1) → r c p = Except.ok (v, p + 1 + 1)) (h : zrb3 c pc op a b = true) : decode c pc = .ok (g v, 3) := by
  unfold zrb3 at h
  split at h
  · next x y z t hd =>
    have h' := Bool.and_eq_true_iff.mp h
    have h'' := Bool.and_eq_true_iff.mp h'.2
    have hx : x.toNat = op := Nat.eq_of_beq_eq_true h'.1
    have hy : y.toNat = a := Nat.eq_of_beq_eq_true h''.1
    have hz : z.toNat = b := Nat.eq_of_beq_eq_true h''.2
    obtain ⟨h1, hd1⟩ := zrd hd
    obtain ⟨h2, hd2⟩ := zrd hd1
    obtain ⟨h3, -⟩ := zrd hd2
    rw [hy] at h2
    rw [hz] at h3
    refine zdec (q := pc + 1 + 1 + 1) ?_ (by omega)
    rw [hf, zrbind h1, hx, e, zrbind (hr _ (zru2 h2 h3))]
    rfl
  · exact absurd h (by decide)
theorem zk2 {c : ByteArray} {pc : Nat} (h : zrb1 c pc 2 = true) : decode c pc = .ok (.iconst (-1), 1) := zdk1 rfl rfl h
theorem zk3 {c : ByteArray} {pc : Nat} (h : zrb1 c pc 3 = true) : decode c pc = .ok (.iconst 0, 1) := zdk1 rfl rfl h
theorem zk4 {c : ByteArray} {pc : Nat} (h : zrb1 c pc 4 = true) : decode c pc = .ok (.iconst 1, 1) := zdk1 rfl rfl h
theorem zk5 {c : ByteArray} {pc : Nat} (h : zrb1 c pc 5 = true) : decode c pc = .ok (.iconst 2, 1) := zdk1 rfl rfl h
theorem zk6 {c : ByteArray} {pc : Nat} (h : zrb1 c pc 6 = true) : decode c pc = .ok (.iconst 3, 1) := zdk1 rfl rfl h
theorem zk7 {c : ByteArray} {pc : Nat} (h : zrb1 c pc 7 = true) : decode c pc = .ok (.iconst 4, 1) := zdk1 rfl rfl h
theorem zk8 {c : ByteArray} {pc : Nat} (h : zrb1 c pc 8 = true) : decode c pc = .ok (.iconst 5, 1) := zdk1 rfl rfl h
theorem zk9 {c : ByteArray} {pc : Nat} (h : zrb1 c pc 9 = true) : decode c pc = .ok (.lconst 0, 1) := zdk1 rfl rfl h
theorem zk10 {c : ByteArray} {pc : Nat} (h : zrb1 c pc 10 = true) : decode c pc = .ok (.lconst 1, 1) := zdk1 rfl rfl h
theorem zk16 {c : ByteArray} {pc : Nat} (a : Nat) {v : Int} (e : Jvm.ClassFile.Reader.signed 8 a = v) (h : zrb2 c pc 16 a = true) : decode c pc = .ok (.bipush v, 2) := by subst e; exact zdk2 (r := Jvm.ClassFile.Reader.s1) (v := Jvm.ClassFile.Reader.signed 8 a) (g := fun x => .bipush x) rfl rfl (fun _ h => zrs h) h
theorem zk17 {c : ByteArray} {pc : Nat} (a b : Nat) {v : Int} (e : Jvm.ClassFile.Reader.signed 16 (a * 256 + b) = v) (h : zrb3 c pc 17 a b = true) : decode c pc = .ok (.sipush v, 3) := by subst e; exact zdk3 (r := Jvm.ClassFile.Reader.s2) (v := Jvm.ClassFile.Reader.signed 16 (a * 256 + b)) (g := fun x => .sipush x) rfl rfl (fun _ h => zrs h) h
theorem zk18 {c : ByteArray} {pc : Nat} (a : Nat) (h : zrb2 c pc 18 a = true) : decode c pc = .ok (.ldc a, 2) := zdk2 (r := Jvm.ClassFile.Reader.u1) (v := a) (g := fun x => .ldc x) rfl rfl (fun _ h => h) h
theorem zk19 {c : ByteArray} {pc : Nat} (a b : Nat) (h : zrb3 c pc 19 a b = true) : decode c pc = .ok (.ldc_w (a * 256 + b), 3) := zdk3 (r := Jvm.ClassFile.Reader.u2) (v := a * 256 + b) (g := fun x => .ldc_w x) rfl rfl (fun _ h => h) h
theorem zk20 {c : ByteArray} {pc : Nat} (a b : Nat) (h : zrb3 c pc 20 a b = true) : decode c pc = .ok (.ldc2_w (a * 256 + b), 3) := zdk3 (r := Jvm.ClassFile.Reader.u2) (v := a * 256 + b) (g := fun x => .ldc2_w x) rfl rfl (fun _ h => h) h
theorem zk21 {c : ByteArray} {pc : Nat} (a : Nat) (h : zrb2 c pc 21 a = true) : decode c pc = .ok (.iload a, 2) := zdk2 (r := Jvm.ClassFile.Reader.u1) (v := a) (g := fun x => .iload x) rfl rfl (fun _ h => h) h
theorem zk22 {c : ByteArray} {pc : Nat} (a : Nat) (h : zrb2 c pc 22 a = true) : decode c pc = .ok (.lload a, 2) := zdk2 (r := Jvm.ClassFile.Reader.u1) (v := a) (g := fun x => .lload x) rfl rfl (fun _ h => h) h
theorem zk25 {c : ByteArray} {pc : Nat} (a : Nat) (h : zrb2 c pc 25 a = true) : decode c pc = .ok (.aload a, 2) := zdk2 (r := Jvm.ClassFile.Reader.u1) (v := a) (g := fun x => .aload x) rfl rfl (fun _ h => h) h
theorem zk26 {c : ByteArray} {pc : Nat} (h : zrb1 c pc 26 = true) : decode c pc = .ok (.iload_n 0, 1) := zdk1 rfl rfl h
theorem zk27 {c : ByteArray} {pc : Nat} (h : zrb1 c pc 27 = true) : decode c pc = .ok (.iload_n 1, 1) := zdk1 rfl rfl h
theorem zk28 {c : ByteArray} {pc : Nat} (h : zrb1 c pc 28 = true) : decode c pc = .ok (.iload_n 2, 1) := zdk1 rfl rfl h
theorem zk29 {c : ByteArray} {pc : Nat} (h : zrb1 c pc 29 = true) : decode c pc = .ok (.iload_n 3, 1) := zdk1 rfl rfl h
theorem zk30 {c : ByteArray} {pc : Nat} (h : zrb1 c pc 30 = true) : decode c pc = .ok (.lload_n 0, 1) := zdk1 rfl rfl h
theorem zk32 {c : ByteArray} {pc : Nat} (h : zrb1 c pc 32 = true) : decode c pc = .ok (.lload_n 2, 1) := zdk1 rfl rfl h
theorem zk42 {c : ByteArray} {pc : Nat} (h : zrb1 c pc 42 = true) : decode c pc = .ok (.aload_n 0, 1) := zdk1 rfl rfl h
theorem zk43 {c : ByteArray} {pc : Nat} (h : zrb1 c pc 43 = true) : decode c pc = .ok (.aload_n 1, 1) := zdk1 rfl rfl h
theorem zk44 {c : ByteArray} {pc : Nat} (h : zrb1 c pc 44 = true) : decode c pc = .ok (.aload_n 2, 1) := zdk1 rfl rfl h
theorem zk45 {c : ByteArray} {pc : Nat} (h : zrb1 c pc 45 = true) : decode c pc = .ok (.aload_n 3, 1) := zdk1 rfl rfl h
theorem zk46 {c : ByteArray} {pc : Nat} (h : zrb1 c pc 46 = true) : decode c pc = .ok (.iaload, 1) := zdk1 rfl rfl h
theorem zk50 {c : ByteArray} {pc : Nat} (h : zrb1 c pc 50 = true) : decode c pc = .ok (.aaload, 1) := zdk1 rfl rfl h
theorem zk51 {c : ByteArray} {pc : Nat} (h : zrb1 c pc 51 = true) : decode c pc = .ok (.baload, 1) := zdk1 rfl rfl h
theorem zk54 {c : ByteArray} {pc : Nat} (a : Nat) (h : zrb2 c pc 54 a = true) : decode c pc = .ok (.istore a, 2) := zdk2 (r := Jvm.ClassFile.Reader.u1) (v := a) (g := fun x => .istore x) rfl rfl (fun _ h => h) h
theorem zk58 {c : ByteArray} {pc : Nat} (a : Nat) (h : zrb2 c pc 58 a = true) : decode c pc = .ok (.astore a, 2) := zdk2 (r := Jvm.ClassFile.Reader.u1) (v := a) (g := fun x => .astore x) rfl rfl (fun _ h => h) h
theorem zk59 {c : ByteArray} {pc : Nat} (h : zrb1 c pc 59 = true) : decode c pc = .ok (.istore_n 0, 1) := zdk1 rfl rfl h
theorem zk60 {c : ByteArray} {pc : Nat} (h : zrb1 c pc 60 = true) : decode c pc = .ok (.istore_n 1, 1) := zdk1 rfl rfl h
theorem zk61 {c : ByteArray} {pc : Nat} (h : zrb1 c pc 61 = true) : decode c pc = .ok (.istore_n 2, 1) := zdk1 rfl rfl h
theorem zk62 {c : ByteArray} {pc : Nat} (h : zrb1 c pc 62 = true) : decode c pc = .ok (.istore_n 3, 1) := zdk1 rfl rfl h
theorem zk76 {c : ByteArray} {pc : Nat} (h : zrb1 c pc 76 = true) : decode c pc = .ok (.astore_n 1, 1) := zdk1 rfl rfl h
theorem zk77 {c : ByteArray} {pc : Nat} (h : zrb1 c pc 77 = true) : decode c pc = .ok (.astore_n 2, 1) := zdk1 rfl rfl h
theorem zk78 {c : ByteArray} {pc : Nat} (h : zrb1 c pc 78 = true) : decode c pc = .ok (.astore_n 3, 1) := zdk1 rfl rfl h
theorem zk79 {c : ByteArray} {pc : Nat} (h : zrb1 c pc 79 = true) : decode c pc = .ok (.iastore, 1) := zdk1 rfl rfl h
theorem zk83 {c : ByteArray} {pc : Nat} (h : zrb1 c pc 83 = true) : decode c pc = .ok (.aastore, 1) := zdk1 rfl rfl h
theorem zk87 {c : ByteArray} {pc : Nat} (h : zrb1 c pc 87 = true) : decode c pc = .ok (.pop, 1) := zdk1 rfl rfl h
theorem zk89 {c : ByteArray} {pc : Nat} (h : zrb1 c pc 89 = true) : decode c pc = .ok (.dup, 1) := zdk1 rfl rfl h
theorem zk92 {c : ByteArray} {pc : Nat} (h : zrb1 c pc 92 = true) : decode c pc = .ok (.dup2, 1) := zdk1 rfl rfl h
theorem zk96 {c : ByteArray} {pc : Nat} (h : zrb1 c pc 96 = true) : decode c pc = .ok (.iadd, 1) := zdk1 rfl rfl h
theorem zk97 {c : ByteArray} {pc : Nat} (h : zrb1 c pc 97 = true) : decode c pc = .ok (.ladd, 1) := zdk1 rfl rfl h
theorem zk100 {c : ByteArray} {pc : Nat} (h : zrb1 c pc 100 = true) : decode c pc = .ok (.isub, 1) := zdk1 rfl rfl h
theorem zk104 {c : ByteArray} {pc : Nat} (h : zrb1 c pc 104 = true) : decode c pc = .ok (.imul, 1) := zdk1 rfl rfl h
theorem zk108 {c : ByteArray} {pc : Nat} (h : zrb1 c pc 108 = true) : decode c pc = .ok (.idiv, 1) := zdk1 rfl rfl h
theorem zk112 {c : ByteArray} {pc : Nat} (h : zrb1 c pc 112 = true) : decode c pc = .ok (.irem, 1) := zdk1 rfl rfl h
theorem zk116 {c : ByteArray} {pc : Nat} (h : zrb1 c pc 116 = true) : decode c pc = .ok (.ineg, 1) := zdk1 rfl rfl h
theorem zk120 {c : ByteArray} {pc : Nat} (h : zrb1 c pc 120 = true) : decode c pc = .ok (.ishl, 1) := zdk1 rfl rfl h
theorem zk122 {c : ByteArray} {pc : Nat} (h : zrb1 c pc 122 = true) : decode c pc = .ok (.ishr, 1) := zdk1 rfl rfl h
theorem zk124 {c : ByteArray} {pc : Nat} (h : zrb1 c pc 124 = true) : decode c pc = .ok (.iushr, 1) := zdk1 rfl rfl h
theorem zk126 {c : ByteArray} {pc : Nat} (h : zrb1 c pc 126 = true) : decode c pc = .ok (.iand, 1) := zdk1 rfl rfl h
theorem zk128 {c : ByteArray} {pc : Nat} (h : zrb1 c pc 128 = true) : decode c pc = .ok (.ior, 1) := zdk1 rfl rfl h
theorem zk133 {c : ByteArray} {pc : Nat} (h : zrb1 c pc 133 = true) : decode c pc = .ok (.i2l, 1) := zdk1 rfl rfl h
theorem zk145 {c : ByteArray} {pc : Nat} (h : zrb1 c pc 145 = true) : decode c pc = .ok (.i2b, 1) := zdk1 rfl rfl h
theorem zk146 {c : ByteArray} {pc : Nat} (h : zrb1 c pc 146 = true) : decode c pc = .ok (.i2c, 1) := zdk1 rfl rfl h
theorem zk147 {c : ByteArray} {pc : Nat} (h : zrb1 c pc 147 = true) : decode c pc = .ok (.i2s, 1) := zdk1 rfl rfl h
theorem zk148 {c : ByteArray} {pc : Nat} (h : zrb1 c pc 148 = true) : decode c pc = .ok (.lcmp, 1) := zdk1 rfl rfl h
theorem zk153 {c : ByteArray} {pc : Nat} (a b : Nat) {v : Int} (e : Jvm.ClassFile.Reader.signed 16 (a * 256 + b) = v) (h : zrb3 c pc 153 a b = true) : decode c pc = .ok (.ifCond .eq v, 3) := by subst e; exact zdk3 (r := Jvm.ClassFile.Reader.s2) (v := Jvm.ClassFile.Reader.signed 16 (a * 256 + b)) (g := fun x => .ifCond .eq x) rfl rfl (fun _ h => zrs h) h
theorem zk154 {c : ByteArray} {pc : Nat} (a b : Nat) {v : Int} (e : Jvm.ClassFile.Reader.signed 16 (a * 256 + b) = v) (h : zrb3 c pc 154 a b = true) : decode c pc = .ok (.ifCond .ne v, 3) := by subst e; exact zdk3 (r := Jvm.ClassFile.Reader.s2) (v := Jvm.ClassFile.Reader.signed 16 (a * 256 + b)) (g := fun x => .ifCond .ne x) rfl rfl (fun _ h => zrs h) h
theorem zk155 {c : ByteArray} {pc : Nat} (a b : Nat) {v : Int} (e : Jvm.ClassFile.Reader.signed 16 (a * 256 + b) = v) (h : zrb3 c pc 155 a b = true) : decode c pc = .ok (.ifCond .lt v, 3) := by subst e; exact zdk3 (r := Jvm.ClassFile.Reader.s2) (v := Jvm.ClassFile.Reader.signed 16 (a * 256 + b)) (g := fun x => .ifCond .lt x) rfl rfl (fun _ h => zrs h) h
theorem zk156 {c : ByteArray} {pc : Nat} (a b : Nat) {v : Int} (e : Jvm.ClassFile.Reader.signed 16 (a * 256 + b) = v) (h : zrb3 c pc 156 a b = true) : decode c pc = .ok (.ifCond .ge v, 3) := by subst e; exact zdk3 (r := Jvm.ClassFile.Reader.s2) (v := Jvm.ClassFile.Reader.signed 16 (a * 256 + b)) (g := fun x => .ifCond .ge x) rfl rfl (fun _ h => zrs h) h
theorem zk157 {c : ByteArray} {pc : Nat} (a b : Nat) {v : Int} (e : Jvm.ClassFile.Reader.signed 16 (a * 256 + b) = v) (h : zrb3 c pc 157 a b = true) : decode c pc = .ok (.ifCond .gt v, 3) := by subst e; exact zdk3 (r := Jvm.ClassFile.Reader.s2) (v := Jvm.ClassFile.Reader.signed 16 (a * 256 + b)) (g := fun x => .ifCond .gt x) rfl rfl (fun _ h => zrs h) h
theorem zk158 {c : ByteArray} {pc : Nat} (a b : Nat) {v : Int} (e : Jvm.ClassFile.Reader.signed 16 (a * 256 + b) = v) (h : zrb3 c pc 158 a b = true) : decode c pc = .ok (.ifCond .le v, 3) := by subst e; exact zdk3 (r := Jvm.ClassFile.Reader.s2) (v := Jvm.ClassFile.Reader.signed 16 (a * 256 + b)) (g := fun x => .ifCond .le x) rfl rfl (fun _ h => zrs h) h
theorem zk159 {c : ByteArray} {pc : Nat} (a b : Nat) {v : Int} (e : Jvm.ClassFile.Reader.signed 16 (a * 256 + b) = v) (h : zrb3 c pc 159 a b = true) : decode c pc = .ok (.if_icmp .eq v, 3) := by subst e; exact zdk3 (r := Jvm.ClassFile.Reader.s2) (v := Jvm.ClassFile.Reader.signed 16 (a * 256 + b)) (g := fun x => .if_icmp .eq x) rfl rfl (fun _ h => zrs h) h
theorem zk160 {c : ByteArray} {pc : Nat} (a b : Nat) {v : Int} (e : Jvm.ClassFile.Reader.signed 16 (a * 256 + b) = v) (h : zrb3 c pc 160 a b = true) : decode c pc = .ok (.if_icmp .ne v, 3) := by subst e; exact zdk3 (r := Jvm.ClassFile.Reader.s2) (v := Jvm.ClassFile.Reader.signed 16 (a * 256 + b)) (g := fun x => .if_icmp .ne x) rfl rfl (fun _ h => zrs h) h
theorem zk161 {c : ByteArray} {pc : Nat} (a b : Nat) {v : Int} (e : Jvm.ClassFile.Reader.signed 16 (a * 256 + b) = v) (h : zrb3 c pc 161 a b = true) : decode c pc = .ok (.if_icmp .lt v, 3) := by subst e; exact zdk3 (r := Jvm.ClassFile.Reader.s2) (v := Jvm.ClassFile.Reader.signed 16 (a * 256 + b)) (g := fun x => .if_icmp .lt x) rfl rfl (fun _ h => zrs h) h
theorem zk162 {c : ByteArray} {pc : Nat} (a b : Nat) {v : Int} (e : Jvm.ClassFile.Reader.signed 16 (a * 256 + b) = v) (h : zrb3 c pc 162 a b = true) : decode c pc = .ok (.if_icmp .ge v, 3) := by subst e; exact zdk3 (r := Jvm.ClassFile.Reader.s2) (v := Jvm.ClassFile.Reader.signed 16 (a * 256 + b)) (g := fun x => .if_icmp .ge x) rfl rfl (fun _ h => zrs h) h
theorem zk163 {c : ByteArray} {pc : Nat} (a b : Nat) {v : Int} (e : Jvm.ClassFile.Reader.signed 16 (a * 256 + b) = v) (h : zrb3 c pc 163 a b = true) : decode c pc = .ok (.if_icmp .gt v, 3) := by subst e; exact zdk3 (r := Jvm.ClassFile.Reader.s2) (v := Jvm.ClassFile.Reader.signed 16 (a * 256 + b)) (g := fun x => .if_icmp .gt x) rfl rfl (fun _ h => zrs h) h
theorem zk164 {c : ByteArray} {pc : Nat} (a b : Nat) {v : Int} (e : Jvm.ClassFile.Reader.signed 16 (a * 256 + b) = v) (h : zrb3 c pc 164 a b = true) : decode c pc = .ok (.if_icmp .le v, 3) := by subst e; exact zdk3 (r := Jvm.ClassFile.Reader.s2) (v := Jvm.ClassFile.Reader.signed 16 (a * 256 + b)) (g := fun x => .if_icmp .le x) rfl rfl (fun _ h => zrs h) h
theorem zk167 {c : ByteArray} {pc : Nat} (a b : Nat) {v : Int} (e : Jvm.ClassFile.Reader.signed 16 (a * 256 + b) = v) (h : zrb3 c pc 167 a b = true) : decode c pc = .ok (.goto v, 3) := by subst e; exact zdk3 (r := Jvm.ClassFile.Reader.s2) (v := Jvm.ClassFile.Reader.signed 16 (a * 256 + b)) (g := fun x => .goto x) rfl rfl (fun _ h => zrs h) h
theorem zk172 {c : ByteArray} {pc : Nat} (h : zrb1 c pc 172 = true) : decode c pc = .ok (.ireturn, 1) := zdk1 rfl rfl h
theorem zk176 {c : ByteArray} {pc : Nat} (h : zrb1 c pc 176 = true) : decode c pc = .ok (.areturn, 1) := zdk1 rfl rfl h
theorem zk177 {c : ByteArray} {pc : Nat} (h : zrb1 c pc 177 = true) : decode c pc = .ok (.return_, 1) := zdk1 rfl rfl h
theorem zk178 {c : ByteArray} {pc : Nat} (a b : Nat) (h : zrb3 c pc 178 a b = true) : decode c pc = .ok (.getstatic (a * 256 + b), 3) := zdk3 (r := Jvm.ClassFile.Reader.u2) (v := a * 256 + b) (g := fun x => .getstatic x) rfl rfl (fun _ h => h) h
theorem zk180 {c : ByteArray} {pc : Nat} (a b : Nat) (h : zrb3 c pc 180 a b = true) : decode c pc = .ok (.getfield (a * 256 + b), 3) := zdk3 (r := Jvm.ClassFile.Reader.u2) (v := a * 256 + b) (g := fun x => .getfield x) rfl rfl (fun _ h => h) h
theorem zk181 {c : ByteArray} {pc : Nat} (a b : Nat) (h : zrb3 c pc 181 a b = true) : decode c pc = .ok (.putfield (a * 256 + b), 3) := zdk3 (r := Jvm.ClassFile.Reader.u2) (v := a * 256 + b) (g := fun x => .putfield x) rfl rfl (fun _ h => h) h
theorem zk182 {c : ByteArray} {pc : Nat} (a b : Nat) (h : zrb3 c pc 182 a b = true) : decode c pc = .ok (.invokevirtual (a * 256 + b), 3) := zdk3 (r := Jvm.ClassFile.Reader.u2) (v := a * 256 + b) (g := fun x => .invokevirtual x) rfl rfl (fun _ h => h) h
theorem zk183 {c : ByteArray} {pc : Nat} (a b : Nat) (h : zrb3 c pc 183 a b = true) : decode c pc = .ok (.invokespecial (a * 256 + b), 3) := zdk3 (r := Jvm.ClassFile.Reader.u2) (v := a * 256 + b) (g := fun x => .invokespecial x) rfl rfl (fun _ h => h) h
theorem zk184 {c : ByteArray} {pc : Nat} (a b : Nat) (h : zrb3 c pc 184 a b = true) : decode c pc = .ok (.invokestatic (a * 256 + b), 3) := zdk3 (r := Jvm.ClassFile.Reader.u2) (v := a * 256 + b) (g := fun x => .invokestatic x) rfl rfl (fun _ h => h) h
theorem zk187 {c : ByteArray} {pc : Nat} (a b : Nat) (h : zrb3 c pc 187 a b = true) : decode c pc = .ok (.new (a * 256 + b), 3) := zdk3 (r := Jvm.ClassFile.Reader.u2) (v := a * 256 + b) (g := fun x => .new x) rfl rfl (fun _ h => h) h
theorem zk189 {c : ByteArray} {pc : Nat} (a b : Nat) (h : zrb3 c pc 189 a b = true) : decode c pc = .ok (.anewarray (a * 256 + b), 3) := zdk3 (r := Jvm.ClassFile.Reader.u2) (v := a * 256 + b) (g := fun x => .anewarray x) rfl rfl (fun _ h => h) h
theorem zk190 {c : ByteArray} {pc : Nat} (h : zrb1 c pc 190 = true) : decode c pc = .ok (.arraylength, 1) := zdk1 rfl rfl h
theorem goodIn_pc {big : List Cond} (bs : List (List Cond)) (hb : big = bs.flatten) (ws : List Cond) (ps : List (Nat × List Nat)) (hp : ws = ps.flatMap (fun p => p.2.filterMap (fun i => ((bs[p.1]?).getD [])[i]?))) (h : ws.all goodWord = true) : GoodIn big ws := by
  intro w hw
  have h1 := List.all_eq_true.mp h w hw
  rw [hp] at hw
  obtain ⟨p, -, hw⟩ := List.mem_flatMap.mp hw
  obtain ⟨i, -, hi⟩ := List.mem_filterMap.mp hw
  have hm := List.mem_of_getElem? hi
  refine ⟨?_, good_of_word h1⟩
  rw [hb]
  cases hq : bs[p.1]? with
  | none => rw [hq] at hm; exact absurd hm (by intro z; cases z)
  | some b => rw [hq] at hm; exact List.mem_flatten.mpr ⟨b, List.mem_of_getElem? hq, hm⟩
