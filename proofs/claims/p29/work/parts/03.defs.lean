-- words of the walker: what a cell is, what the cells hold, a method, its facts
abbrev SP : Type := Nat × Nat × List Nat
abbrev HS : Type := (Nat → Nat → Int32) × (Nat → Nat → Int64)
abbrev Geo : Type := va_G × (Nat → Nat) × ClassId × ClassId × ClassId
def aw_tb : List Cond := lw_tbl.filter goodWord
abbrev MI : Type := MethodName × ByteArray × Nat × Option FieldType
theorem aw_in {w : Cond} (i : Nat) (h : lw_tbl[i]? = some w) (hg : goodWord w = true) : w ∈ aw_tb := List.mem_filter.mpr ⟨List.mem_of_getElem? h, hg⟩
abbrev WT : Type := Launch × Geo × List SP × (Nat → Nat)
def FL (own : String) (index ci j : Nat) : Prop := ∃ (C : String) (T : u_T) (N : Nat), vwCl[ci]? = some (C, T, N) ∧ j < N ∧ (Cond.fieldLink own index C (T j).2.1 (T j).2.2.1) ∈ aw_tb ∧ (∀ w ∈ u_ws C T N, w ∈ aw_tb) ∧ (T j).1 = C
def FP_ (ci j : Nat) (ty : FieldType) : Prop := ∃ (C : String) (T : u_T) (N : Nat) (tys : Nat → FieldType), vwCl[ci]? = some (C, T, N) ∧ (∀ k, k < N → parseFieldDescriptor (T k).2.2.1 = some (tys k)) ∧ (∀ a, a < N → ∀ b, b < N → a ≠ b → (T a).2.1 ≠ (T b).2.1) ∧ (T j).2.2.2 = false ∧ parseFieldDescriptor (T j).2.2.1 = some ty
def MF (mi : MI) (n : Nat) : Prop := Cond.code mi.1 mi.2.1 mi.2.2.1 mi.2.2.2 ∈ aw_tb ∧ Cond.initialized mi.1.cls ∈ aw_tb ∧ (mi.1.cls ≠ "java/lang/invoke/MethodHandle" ∧ mi.1.cls ≠ "java/lang/invoke/VarHandle" ∧ (parseMethodDescriptor mi.1.desc).map (fun d => d.parameters.length) = some n) ∧ mi.2.2.1 ≤ 17
def MFs (mi : MI) (n : Nat) : Prop := MF mi n ∧ Cond.static mi.1 ∈ aw_tb
def MFv (mi : MI) (n : Nat) : Prop := MF mi n ∧ Cond.instanceMethod mi.1 ∈ aw_tb ∧ Cond.selects mi.1.cls mi.1 mi.1 ∈ aw_tb
def ML (own : String) (index : Nat) (mi : MI) : Prop := Cond.methodLink own index mi.1 ∈ aw_tb
def MLN (own : String) (index : Nat) (mi : MI) : Prop := Cond.methodLinkNest own index mi.1 "ManyNames" ∈ lw_tbl
def CLS (ci : Nat) (C : String) : Prop := ∃ q : vw_C, vwCl[ci]? = some q ∧ q.1 = C
theorem aw_me {w : Cond} (h : w ∈ lw_tbl) (hg : goodWord w = true) : w ∈ aw_tb := List.mem_filter.mpr ⟨h, hg⟩
/-! the law's bytes, block by block: decode looks at the bytes from pc on -/
def byB (l : List UInt8) : List Nat → Bool
  | [] => true
  | b :: bs => match l with
    | [] => false
    | x :: xs => Nat.beq x.toNat b && byB xs bs
theorem byB_at : ∀ (bs : List Nat) (l : List UInt8), byB l bs = true → ∀ (k b : Nat), bs[k]? = some b → (l[k]?).map UInt8.toNat = some b := by
  intro bs
  induction bs with
  | nil => intro l _ k b hk; cases hk
  | cons q bs ih =>
    intro l h k b hk
    cases l with
    | nil => cases h
    | cons x xs =>
      have h2 : Nat.beq x.toNat q = true ∧ byB xs bs = true := by
        have h3 : (Nat.beq x.toNat q && byB xs bs) = true := h
        rw [Bool.and_eq_true] at h3
        exact h3
      cases k with
      | zero =>
        have e : q = b := Option.some.inj hk
        rw [← e]
        exact congrArg some (Nat.eq_of_beq_eq_true h2.1)
      | succ k => exact ih xs h2.2 k b hk
def BY (c : ByteArray) (p b : Nat) : Prop := (c.data.toList[p]?).map UInt8.toNat = some b
theorem by_at {c : ByteArray} {bs : List Nat} (o k : Nat) {b : Nat} (h : byB (c.data.toList.drop o) bs = true) (hk : bs[k]? = some b) : BY c (o + k) b := by
  have z := byB_at bs _ h k b hk
  rw [List.getElem?_drop] at z
  exact z
def BY3 (c : ByteArray) (p b x y : Nat) : Prop := BY c p b ∧ BY c (p + 1) x ∧ BY c (p + 2) y
def BY2 (c : ByteArray) (p b x : Nat) : Prop := BY c p b ∧ BY c (p + 1) x
theorem by_3 {c : ByteArray} {bs r : List Nat} (o k : Nat) {b x y : Nat} (h : byB (c.data.toList.drop o) bs = true) (hk : bs.drop k = b :: x :: y :: r) : BY3 c (o + k) b x y := by
  have e : ∀ j z, (b :: x :: y :: r)[j]? = some z → bs[k + j]? = some z := by
    intro j z hz
    rw [← List.getElem?_drop, hk]
    exact hz
  exact ⟨by_at o k h (e 0 b rfl), by_at o (k + 1) h (e 1 x rfl), by_at o (k + 2) h (e 2 y rfl)⟩
theorem by_2 {c : ByteArray} {bs r : List Nat} (o k : Nat) {b x : Nat} (h : byB (c.data.toList.drop o) bs = true) (hk : bs.drop k = b :: x :: r) : BY2 c (o + k) b x := by
  have e : ∀ j z, (b :: x :: r)[j]? = some z → bs[k + j]? = some z := by
    intro j z hz
    rw [← List.getElem?_drop, hk]
    exact hz
  exact ⟨by_at o k h (e 0 b rfl), by_at o (k + 1) h (e 1 x rfl)⟩
theorem by_1 {c : ByteArray} {bs r : List Nat} (o k : Nat) {b : Nat} (h : byB (c.data.toList.drop o) bs = true) (hk : bs.drop k = b :: r) : BY c (o + k) b := by
  have e : ∀ j z, (b :: r)[j]? = some z → bs[k + j]? = some z := by
    intro j z hz
    rw [← List.getElem?_drop, hk]
    exact hz
  exact by_at o k h (e 0 b rfl)
theorem u1_at {c : ByteArray} {p b : Nat} (h : BY c p b) : (Reader.u1 : Decoder Nat) c p = .ok (b, p + 1) := by
  unfold BY at h
  cases e : c.data.toList[p]? with
  | none => rw [e] at h; cases h
  | some x =>
    rw [e] at h
    obtain ⟨h1, h2⟩ := List.getElem?_eq_some_iff.mp e
    have hs : p < c.size := h1
    have e2 : c[p] = x := h2
    have e3 : x.toNat = b := Option.some.inj h
    show (if h : p < c.size then ((do set (p + 1); pure c[p].toNat) : Decoder Nat) else throw (HasTruncated.truncated p)) c p = _
    rw [dif_pos hs]
    show (Except.ok (c[p].toNat, p + 1) : Except DecodeError (Nat × Nat)) = _
    rw [e2, e3]
theorem u2_at {c : ByteArray} {p x y : Nat} (h1 : BY c p x) (h2 : BY c (p + 1) y) : (Reader.u2 : Decoder Nat) c p = .ok (x * 256 + y, p + 2) := by
  show (Except.bind ((Reader.u1 : Decoder Nat) c p) _) = _
  rw [u1_at h1]
  show (Except.bind ((Reader.u1 : Decoder Nat) c (p + 1)) _) = _
  rw [u1_at h2]
  rfl
theorem dc1 {c : ByteArray} {pc b n : Nat} {i : Instr} {f : Nat → Decoder Instr} (hf : Decoder.instr pc = bind Reader.u1 f) (h : BY c pc b) (k : f b c (pc + 1) = .ok (i, n)) : decode c pc = .ok (i, n - pc) := by
  have e : (Decoder.instr pc) c pc = .ok (i, n) := by
    rw [hf]
    show (Except.bind ((Reader.u1 : Decoder Nat) c pc) (fun q => f q.1 c q.2)) = _
    rw [u1_at h]
    exact k
  show (Except.bind ((Decoder.instr pc) c pc) _) = _
  rw [e]
  rfl
theorem dc3 {c : ByteArray} {pc b x y n : Nat} {i : Instr} {f : Nat → Decoder Instr} {g : Nat → Decoder Instr} (hf : Decoder.instr pc = bind Reader.u1 f) (h : BY c pc b) (hg : f b = bind Reader.u2 g) (h1 : BY c (pc + 1) x) (h2 : BY c (pc + 2) y) (k : g (x * 256 + y) c (pc + 3) = .ok (i, n)) : decode c pc = .ok (i, n - pc) := by
  refine dc1 hf h ?_
  rw [hg]
  show (Except.bind ((Reader.u2 : Decoder Nat) c (pc + 1)) (fun q => g q.1 c q.2)) = _
  rw [u2_at h1 h2]
  exact k
theorem s2_at {c : ByteArray} {p x y : Nat} (h1 : BY c p x) (h2 : BY c (p + 1) y) : (Reader.s2 : Decoder Int) c p = .ok (Reader.signed 16 (x * 256 + y), p + 2) := by
  show (Except.bind ((Reader.u2 : Decoder Nat) c p) _) = _
  rw [u2_at h1 h2]
  rfl
theorem dc3s {c : ByteArray} {pc b x y n : Nat} {i : Instr} {f : Nat → Decoder Instr} {g : Int → Decoder Instr} (hf : Decoder.instr pc = bind Reader.u1 f) (h : BY c pc b) (hg : f b = bind Reader.s2 g) (h1 : BY c (pc + 1) x) (h2 : BY c (pc + 2) y) (k : g (Reader.signed 16 (x * 256 + y)) c (pc + 3) = .ok (i, n)) : decode c pc = .ok (i, n - pc) := by
  refine dc1 hf h ?_
  rw [hg]
  show (Except.bind ((Reader.s2 : Decoder Int) c (pc + 1)) (fun q => g q.1 c q.2)) = _
  rw [s2_at h1 h2]
  exact k
theorem dc2 {c : ByteArray} {pc b x n : Nat} {i : Instr} {f : Nat → Decoder Instr} {g : Nat → Decoder Instr} (hf : Decoder.instr pc = bind Reader.u1 f) (h : BY c pc b) (hg : f b = bind Reader.u1 g) (h1 : BY c (pc + 1) x) (k : g x c (pc + 2) = .ok (i, n)) : decode c pc = .ok (i, n - pc) := by
  refine dc1 hf h ?_
  rw [hg]
  show (Except.bind ((Reader.u1 : Decoder Nat) c (pc + 1)) (fun q => g q.1 c q.2)) = _
  rw [u1_at h1]
  exact k
theorem s1_at {c : ByteArray} {p x : Nat} (h1 : BY c p x) : (Reader.s1 : Decoder Int) c p = .ok (Reader.signed 8 x, p + 1) := by
  show (Except.bind ((Reader.u1 : Decoder Nat) c p) _) = _
  rw [u1_at h1]
  rfl
theorem dc2s {c : ByteArray} {pc b x n : Nat} {i : Instr} {f : Nat → Decoder Instr} {g : Int → Decoder Instr} (hf : Decoder.instr pc = bind Reader.u1 f) (h : BY c pc b) (hg : f b = bind Reader.s1 g) (h1 : BY c (pc + 1) x) (k : g (Reader.signed 8 x) c (pc + 2) = .ok (i, n)) : decode c pc = .ok (i, n - pc) := by
  refine dc1 hf h ?_
  rw [hg]
  show (Except.bind ((Reader.s1 : Decoder Int) c (pc + 1)) (fun q => g q.1 c q.2)) = _
  rw [s1_at h1]
  exact k
