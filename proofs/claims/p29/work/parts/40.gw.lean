/-! walks over a list of cells, which may grow: constructors and the law -/
def aw_rn (d mc ms : Nat) : Room := { frames := d, cells := mc, slots := ms, locals := 36 * d }
/-- launch, tables, the classes of rows, the static rows' places; depth, cells, slots; code, locals, own class -/
abbrev GT : Type := (Launch × va_G × ClassId × ClassId × ClassId × (Nat → Nat)) × (Nat × Nat × Nat) × ByteArray × Nat × String
def GW (x : GT) (Q : State → Prop) (k : KT) (ws : va_W) (kc kn pc : Nat) (L : List (Option Value)) (st : List Value) : Prop := match k with
  | (p, e, s, m, args, below, meth, c, A) => ∀ (H : Heap) (lo : List Loc) (la : Array Slot), aw_lh la x.2.2.2.1 L → va_P x.1.2.1 vwCl ws H → va_D A ws → va_S A s.heap H lo → W p x.1.1 e (aw_rn x.2.1.1 x.2.1.2.1 x.2.1.2.2) s m args below meth c H lo kc kn Q (F0 m pc la st)
def gw_tys (x : GT) : List (ClassId × FieldType) := [(x.1.2.2.1, .int), (x.1.2.2.2.1, .boolean), (x.1.2.2.2.2.1, .object "ManyNames$Sheet")]
def GOK (x : GT) (k : KT) : Prop := match k with
  | (p, e, s, m, args, below, meth, c, A) => p.tables.exec = Jvm.exec ∧ c.code = x.2.2.1 ∧ c.maxLocals = x.2.2.2.1 ∧ s.vm.findClass x.2.2.2.2 = some m.cls ∧ (∀ w ∈ aw_tb, w.before args s = true) ∧ meth.locks = false ∧ va_K x.1.2.1 vwCl (gw_tys x) s ∧ (∀ q, s.heap.size ≤ q → A q) ∧ aw_N s ∧ aw_Z x.1.2.2.2.2.2 A s s.heap
def FF (own : String) (ci j : Nat) (ty : FieldType) : Prop := ∃ (C : String) (T : u_T) (N : Nat) (tys : Nat → FieldType), vwCl[ci]? = some (C, T, N) ∧ (∀ k, k < N → parseFieldDescriptor (T k).2.2.1 = some (tys k)) ∧ (∀ a, a < N → ∀ b, b < N → a ≠ b → (T a).2.1 ≠ (T b).2.1) ∧ (T j).2.2.2 = true ∧ parseFieldDescriptor (T j).2.2.1 = some ty ∧ (T j).1 = own
section GWR
variable {x : GT} {Q : State → Prop} {k : KT} {ws : va_W} {kc kn pc : Nat} {L : List (Option Value)} {st : List Value}
theorem gw_iconst (K : GOK x k) {n0 : Int} {v : Int32} (hd : decode x.2.2.1 pc = .ok (.iconst n0, 1)) (hv : Int32.ofInt n0 = v) (n : GW x Q k ws kc kn (pc + 1) L (.int v :: st)) : GW x Q k ws kc kn pc L (st) := by
  obtain ⟨p, e, s, m, args, below, meth, c, A⟩ := k
  exact fun H lo la a1 a2 a3 a4 => lv_iconst K.1 K.2.1 hd hv (n H lo la a1 a2 a3 a4)
theorem gw_bipush (K : GOK x k) {n0 : Int} {v : Int32} (hd : decode x.2.2.1 pc = .ok (.bipush n0, 2)) (hv : (Int8.ofInt n0).toInt32 = v) (n : GW x Q k ws kc kn (pc + 2) L (.int v :: st)) : GW x Q k ws kc kn pc L (st) := by
  obtain ⟨p, e, s, m, args, below, meth, c, A⟩ := k
  exact fun H lo la a1 a2 a3 a4 => lv_bipush K.1 K.2.1 hd hv (n H lo la a1 a2 a3 a4)
theorem gw_sipush (K : GOK x k) {n0 : Int} {v : Int32} (hd : decode x.2.2.1 pc = .ok (.sipush n0, 3)) (hv : (Int16.ofInt n0).toInt32 = v) (n : GW x Q k ws kc kn (pc + 3) L (.int v :: st)) : GW x Q k ws kc kn pc L (st) := by
  obtain ⟨p, e, s, m, args, below, meth, c, A⟩ := k
  exact fun H lo la a1 a2 a3 a4 => lv_sipush K.1 K.2.1 hd hv (n H lo la a1 a2 a3 a4)
theorem gw_iadd (K : GOK x k) {x1 y1 : Int32} (hd : decode x.2.2.1 pc = .ok (.iadd, 1)) (n : GW x Q k ws kc kn (pc + 1) L (.int (x1 + y1) :: st)) : GW x Q k ws kc kn pc L (.int y1 :: .int x1 :: st) := by
  obtain ⟨p, e, s, m, args, below, meth, c, A⟩ := k
  exact fun H lo la a1 a2 a3 a4 => lv_iadd K.1 K.2.1 hd (n H lo la a1 a2 a3 a4)
theorem gw_isub (K : GOK x k) {x1 y1 : Int32} (hd : decode x.2.2.1 pc = .ok (.isub, 1)) (n : GW x Q k ws kc kn (pc + 1) L (.int (x1 - y1) :: st)) : GW x Q k ws kc kn pc L (.int y1 :: .int x1 :: st) := by
  obtain ⟨p, e, s, m, args, below, meth, c, A⟩ := k
  exact fun H lo la a1 a2 a3 a4 => lv_isub K.1 K.2.1 hd (n H lo la a1 a2 a3 a4)
theorem gw_iand (K : GOK x k) {x1 y1 : Int32} (hd : decode x.2.2.1 pc = .ok (.iand, 1)) (n : GW x Q k ws kc kn (pc + 1) L (.int (x1 &&& y1) :: st)) : GW x Q k ws kc kn pc L (.int y1 :: .int x1 :: st) := by
  obtain ⟨p, e, s, m, args, below, meth, c, A⟩ := k
  exact fun H lo la a1 a2 a3 a4 => lv_iand K.1 K.2.1 hd (n H lo la a1 a2 a3 a4)
theorem gw_land (K : GOK x k) {x1 y1 : Int64} (hd : decode x.2.2.1 pc = .ok (.land, 1)) (n : GW x Q k ws kc kn (pc + 1) L (.long (x1 &&& y1) :: st)) : GW x Q k ws kc kn pc L (.long y1 :: .long x1 :: st) := by
  obtain ⟨p, e, s, m, args, below, meth, c, A⟩ := k
  exact fun H lo la a1 a2 a3 a4 => lv_land K.1 K.2.1 hd (n H lo la a1 a2 a3 a4)
theorem gw_lor (K : GOK x k) {x1 y1 : Int64} (hd : decode x.2.2.1 pc = .ok (.lor, 1)) (n : GW x Q k ws kc kn (pc + 1) L (.long (x1 ||| y1) :: st)) : GW x Q k ws kc kn pc L (.long y1 :: .long x1 :: st) := by
  obtain ⟨p, e, s, m, args, below, meth, c, A⟩ := k
  exact fun H lo la a1 a2 a3 a4 => lv_lor K.1 K.2.1 hd (n H lo la a1 a2 a3 a4)
theorem gw_lshl (K : GOK x k) {x1 : Int64} {y1 : Int32} (hd : decode x.2.2.1 pc = .ok (.lshl, 1)) (n : GW x Q k ws kc kn (pc + 1) L (.long (x1 <<< (y1.toInt64 &&& 63)) :: st)) : GW x Q k ws kc kn pc L (.int y1 :: .long x1 :: st) := by
  obtain ⟨p, e, s, m, args, below, meth, c, A⟩ := k
  exact fun H lo la a1 a2 a3 a4 => lv_lshl K.1 K.2.1 hd rfl (n H lo la a1 a2 a3 a4)
theorem gw_i2l (K : GOK x k) {x1 : Int32} (hd : decode x.2.2.1 pc = .ok (.i2l, 1)) (n : GW x Q k ws kc kn (pc + 1) L (.long x1.toInt64 :: st)) : GW x Q k ws kc kn pc L (.int x1 :: st) := by
  obtain ⟨p, e, s, m, args, below, meth, c, A⟩ := k
  exact fun H lo la a1 a2 a3 a4 => lv_i2l K.1 K.2.1 hd rfl (n H lo la a1 a2 a3 a4)
theorem gw_lcmp (K : GOK x k) {x1 y1 : Int64} (hd : decode x.2.2.1 pc = .ok (.lcmp, 1)) (n : GW x Q k ws kc kn (pc + 1) L (.int (lg_cmp x1 y1) :: st)) : GW x Q k ws kc kn pc L (.long y1 :: .long x1 :: st) := by
  obtain ⟨p, e, s, m, args, below, meth, c, A⟩ := k
  exact fun H lo la a1 a2 a3 a4 => W.lcmp K.1 K.2.1 hd (n H lo la a1 a2 a3 a4)
theorem gw_dup (K : GOK x k) {va : Value} (hd : decode x.2.2.1 pc = .ok (.dup, 1)) (hva : va.category = 1) (n : GW x Q k ws kc kn (pc + 1) L (va :: va :: st)) : GW x Q k ws kc kn pc L (va :: st) := by
  obtain ⟨p, e, s, m, args, below, meth, c, A⟩ := k
  exact fun H lo la a1 a2 a3 a4 => lv_dup K.1 K.2.1 hd hva (n H lo la a1 a2 a3 a4)
theorem gw_pop (K : GOK x k) {va : Value} (hd : decode x.2.2.1 pc = .ok (.pop, 1)) (hva : va.category = 1) (n : GW x Q k ws kc kn (pc + 1) L (st)) : GW x Q k ws kc kn pc L (va :: st) := by
  obtain ⟨p, e, s, m, args, below, meth, c, A⟩ := k
  exact fun H lo la a1 a2 a3 a4 => lv_pop K.1 K.2.1 hd hva (n H lo la a1 a2 a3 a4)
theorem gw_pop2 (K : GOK x k) {va : Value} (hd : decode x.2.2.1 pc = .ok (.pop2, 1)) (hva : va.category = 2) (n : GW x Q k ws kc kn (pc + 1) L (st)) : GW x Q k ws kc kn pc L (va :: st) := by
  obtain ⟨p, e, s, m, args, below, meth, c, A⟩ := k
  exact fun H lo la a1 a2 a3 a4 => lv_pop2_2 K.1 K.2.1 hd hva (n H lo la a1 a2 a3 a4)
theorem gw_ldc2 (K : GOK x k) {index : Nat} {v : Int64} (hc : Cond.constantLong x.2.2.2.2 index v ∈ aw_tb) (hd : decode x.2.2.1 pc = .ok (.ldc2_w index, 3)) (n : GW x Q k ws kc kn (pc + 3) L (.long v :: st)) : GW x Q k ws kc kn pc L st := by
  obtain ⟨p, e, s, m, args, below, meth, c, A⟩ := k
  obtain ⟨k1, k2, k3, k4, k5, k6, k7, k8, k9, k10⟩ := K
  exact fun H lo la a1 a2 a3 a4 => lv_ldc2 k1 k2 k4 (k5 _ hc) hd (n H lo la a1 a2 a3 a4)
theorem gw_goto (K : GOK x k) {off : Int} {tgt : Nat} (hd : decode x.2.2.1 pc = .ok (.goto off, 3)) (ht : (pc : Int) + off = (tgt : Int)) (n : GW x Q k ws kc kn tgt L st) : GW x Q k ws kc kn pc L st := by
  obtain ⟨p, e, s, m, args, below, meth, c, A⟩ := k
  exact fun H lo la a1 a2 a3 a4 => lv_goto K.1 K.2.1 hd ht (n H lo la a1 a2 a3 a4)
theorem gw_if_eq (K : GOK x k) {x1 : Int32} {off : Int} {tgt : Nat} (hd : decode x.2.2.1 pc = .ok (.ifCond .eq off, 3)) (ht : (pc : Int) + off = (tgt : Int)) (kt : x1 = 0 → GW x Q k ws kc kn tgt L st) (kf : ¬ x1 = 0 → GW x Q k ws kc kn (pc + 3) L st) : GW x Q k ws kc kn pc L (.int x1 :: st) := by
  obtain ⟨p, e, s, m, args, below, meth, c, A⟩ := k
  exact fun H lo la a1 a2 a3 a4 => lv_if_eq K.1 K.2.1 hd ht (fun q => kt q H lo la a1 a2 a3 a4) (fun q => kf q H lo la a1 a2 a3 a4)
theorem gw_icmp_eq (K : GOK x k) {x1 y1 : Int32} {off : Int} {tgt : Nat} (hd : decode x.2.2.1 pc = .ok (.if_icmp .eq off, 3)) (ht : (pc : Int) + off = (tgt : Int)) (kt : x1 = y1 → GW x Q k ws kc kn tgt L st) (kf : ¬ x1 = y1 → GW x Q k ws kc kn (pc + 3) L st) : GW x Q k ws kc kn pc L (.int y1 :: .int x1 :: st) := by
  obtain ⟨p, e, s, m, args, below, meth, c, A⟩ := k
  exact fun H lo la a1 a2 a3 a4 => lv_icmp_eq K.1 K.2.1 hd ht (fun q => kt q H lo la a1 a2 a3 a4) (fun q => kf q H lo la a1 a2 a3 a4)
theorem gw_if_ne (K : GOK x k) {x1 : Int32} {off : Int} {tgt : Nat} (hd : decode x.2.2.1 pc = .ok (.ifCond .ne off, 3)) (ht : (pc : Int) + off = (tgt : Int)) (kt : ¬ x1 = 0 → GW x Q k ws kc kn tgt L st) (kf : x1 = 0 → GW x Q k ws kc kn (pc + 3) L st) : GW x Q k ws kc kn pc L (.int x1 :: st) := by
  obtain ⟨p, e, s, m, args, below, meth, c, A⟩ := k
  exact fun H lo la a1 a2 a3 a4 => lv_if_ne K.1 K.2.1 hd ht (fun q => kt q H lo la a1 a2 a3 a4) (fun q => kf q H lo la a1 a2 a3 a4)
theorem gw_icmp_ne (K : GOK x k) {x1 y1 : Int32} {off : Int} {tgt : Nat} (hd : decode x.2.2.1 pc = .ok (.if_icmp .ne off, 3)) (ht : (pc : Int) + off = (tgt : Int)) (kt : ¬ x1 = y1 → GW x Q k ws kc kn tgt L st) (kf : x1 = y1 → GW x Q k ws kc kn (pc + 3) L st) : GW x Q k ws kc kn pc L (.int y1 :: .int x1 :: st) := by
  obtain ⟨p, e, s, m, args, below, meth, c, A⟩ := k
  exact fun H lo la a1 a2 a3 a4 => lv_icmp_ne K.1 K.2.1 hd ht (fun q => kt q H lo la a1 a2 a3 a4) (fun q => kf q H lo la a1 a2 a3 a4)
theorem gw_icmp_gt (K : GOK x k) {x1 y1 : Int32} {off : Int} {tgt : Nat} (hd : decode x.2.2.1 pc = .ok (.if_icmp .gt off, 3)) (ht : (pc : Int) + off = (tgt : Int)) (kt : y1 < x1 → GW x Q k ws kc kn tgt L st) (kf : ¬ y1 < x1 → GW x Q k ws kc kn (pc + 3) L st) : GW x Q k ws kc kn pc L (.int y1 :: .int x1 :: st) := by
  obtain ⟨p, e, s, m, args, below, meth, c, A⟩ := k
  exact fun H lo la a1 a2 a3 a4 => lv_icmp_gt K.1 K.2.1 hd ht (fun q => kt q H lo la a1 a2 a3 a4) (fun q => kf q H lo la a1 a2 a3 a4)
theorem gw_icmp_ge (K : GOK x k) {x1 y1 : Int32} {off : Int} {tgt : Nat} (hd : decode x.2.2.1 pc = .ok (.if_icmp .ge off, 3)) (ht : (pc : Int) + off = (tgt : Int)) (kt : y1 ≤ x1 → GW x Q k ws kc kn tgt L st) (kf : ¬ y1 ≤ x1 → GW x Q k ws kc kn (pc + 3) L st) : GW x Q k ws kc kn pc L (.int y1 :: .int x1 :: st) := by
  obtain ⟨p, e, s, m, args, below, meth, c, A⟩ := k
  exact fun H lo la a1 a2 a3 a4 => lv_icmp_ge K.1 K.2.1 hd ht (fun q => kt q H lo la a1 a2 a3 a4) (fun q => kf q H lo la a1 a2 a3 a4)
theorem gw_il0 (K : GOK x k) {r : List (Option Value)} {v : Int32} (hd : decode x.2.2.1 pc = .ok (.iload_n 0, 1)) (n : GW x Q k ws kc kn (pc + 1) (some (.int v) :: r) (.int v :: st)) : GW x Q k ws kc kn pc (some (.int v) :: r) st := by
  obtain ⟨p, e, s, m, args, below, meth, c, A⟩ := k
  exact fun H lo la a1 a2 a3 a4 => lv_iload_n K.1 K.2.1 hd rfl (a1.2.2 0 _ rfl) (n H lo la a1 a2 a3 a4)
theorem gw_is0 (K : GOK x k) {b : Option Value} {r : List (Option Value)} {v : Int32} (hd : decode x.2.2.1 pc = .ok (.istore_n 0, 1)) (hb : 0 < x.2.2.2.1) (n : GW x Q k ws kc kn (pc + 1) (some (.int v) :: r) st) : GW x Q k ws kc kn pc (b :: r) (.int v :: st) := by
  obtain ⟨p, e, s, m, args, below, meth, c, A⟩ := k
  exact fun H lo la a1 a2 a3 a4 => lv_istore_n K.1 K.2.1 hd rfl (aw_lh_has a1) hb rfl (fun la' hl => n H lo la' (aw_set1 (L := b :: r) hl (fun j w hj => aw_ac_of hj) (fun j o hj _ => by omega)) a2 a3 a4)
theorem gw_al0 (K : GOK x k) {r : List (Option Value)} {v : Nat} (hd : decode x.2.2.1 pc = .ok (.aload_n 0, 1)) (n : GW x Q k ws kc kn (pc + 1) (some (.ref v) :: r) (.ref v :: st)) : GW x Q k ws kc kn pc (some (.ref v) :: r) st := by
  obtain ⟨p, e, s, m, args, below, meth, c, A⟩ := k
  exact fun H lo la a1 a2 a3 a4 => lv_aload_n K.1 K.2.1 hd rfl (a1.2.2 0 _ rfl) (n H lo la a1 a2 a3 a4)
theorem gw_as0 (K : GOK x k) {b : Option Value} {r : List (Option Value)} {v : Nat} (hd : decode x.2.2.1 pc = .ok (.astore_n 0, 1)) (hb : 0 < x.2.2.2.1) (n : GW x Q k ws kc kn (pc + 1) (some (.ref v) :: r) st) : GW x Q k ws kc kn pc (b :: r) (.ref v :: st) := by
  obtain ⟨p, e, s, m, args, below, meth, c, A⟩ := k
  exact fun H lo la a1 a2 a3 a4 => lv_astore_n K.1 K.2.1 hd rfl (aw_lh_has a1) hb rfl (fun la' hl => n H lo la' (aw_set1 (L := b :: r) hl (fun j w hj => aw_ac_of hj) (fun j o hj _ => by omega)) a2 a3 a4)
theorem gw_il1 (K : GOK x k) {u0 : Option Value} {r : List (Option Value)} {v : Int32} (hd : decode x.2.2.1 pc = .ok (.iload_n 1, 1)) (n : GW x Q k ws kc kn (pc + 1) (u0 :: some (.int v) :: r) (.int v :: st)) : GW x Q k ws kc kn pc (u0 :: some (.int v) :: r) st := by
  obtain ⟨p, e, s, m, args, below, meth, c, A⟩ := k
  exact fun H lo la a1 a2 a3 a4 => lv_iload_n K.1 K.2.1 hd rfl (a1.2.2 1 _ rfl) (n H lo la a1 a2 a3 a4)
theorem gw_is1 (K : GOK x k) {u0 : Option Value} {b : Option Value} {r : List (Option Value)} {v : Int32} (hd : decode x.2.2.1 pc = .ok (.istore_n 1, 1)) (hb : 1 < x.2.2.2.1) (hp : aw_c1 u0 = true) (n : GW x Q k ws kc kn (pc + 1) (u0 :: some (.int v) :: r) st) : GW x Q k ws kc kn pc (u0 :: b :: r) (.int v :: st) := by
  obtain ⟨p, e, s, m, args, below, meth, c, A⟩ := k
  exact fun H lo la a1 a2 a3 a4 => lv_istore_n K.1 K.2.1 hd rfl (aw_lh_has a1) hb rfl (fun la' hl => n H lo la' (aw_set1 (L := u0 :: b :: r) hl (fun j w hj => aw_ac_of hj) (fun j o hj ho => by
    obtain rfl : j = 0 := by omega
    simp at ho
    subst ho
    exact hp)) a2 a3 a4)
theorem gw_al1 (K : GOK x k) {u0 : Option Value} {r : List (Option Value)} {v : Nat} (hd : decode x.2.2.1 pc = .ok (.aload_n 1, 1)) (n : GW x Q k ws kc kn (pc + 1) (u0 :: some (.ref v) :: r) (.ref v :: st)) : GW x Q k ws kc kn pc (u0 :: some (.ref v) :: r) st := by
  obtain ⟨p, e, s, m, args, below, meth, c, A⟩ := k
  exact fun H lo la a1 a2 a3 a4 => lv_aload_n K.1 K.2.1 hd rfl (a1.2.2 1 _ rfl) (n H lo la a1 a2 a3 a4)
theorem gw_as1 (K : GOK x k) {u0 : Option Value} {b : Option Value} {r : List (Option Value)} {v : Nat} (hd : decode x.2.2.1 pc = .ok (.astore_n 1, 1)) (hb : 1 < x.2.2.2.1) (hp : aw_c1 u0 = true) (n : GW x Q k ws kc kn (pc + 1) (u0 :: some (.ref v) :: r) st) : GW x Q k ws kc kn pc (u0 :: b :: r) (.ref v :: st) := by
  obtain ⟨p, e, s, m, args, below, meth, c, A⟩ := k
  exact fun H lo la a1 a2 a3 a4 => lv_astore_n K.1 K.2.1 hd rfl (aw_lh_has a1) hb rfl (fun la' hl => n H lo la' (aw_set1 (L := u0 :: b :: r) hl (fun j w hj => aw_ac_of hj) (fun j o hj ho => by
    obtain rfl : j = 0 := by omega
    simp at ho
    subst ho
    exact hp)) a2 a3 a4)
theorem gw_il2 (K : GOK x k) {u0 u1 : Option Value} {r : List (Option Value)} {v : Int32} (hd : decode x.2.2.1 pc = .ok (.iload_n 2, 1)) (n : GW x Q k ws kc kn (pc + 1) (u0 :: u1 :: some (.int v) :: r) (.int v :: st)) : GW x Q k ws kc kn pc (u0 :: u1 :: some (.int v) :: r) st := by
  obtain ⟨p, e, s, m, args, below, meth, c, A⟩ := k
  exact fun H lo la a1 a2 a3 a4 => lv_iload_n K.1 K.2.1 hd rfl (a1.2.2 2 _ rfl) (n H lo la a1 a2 a3 a4)
theorem gw_is2 (K : GOK x k) {u0 u1 : Option Value} {b : Option Value} {r : List (Option Value)} {v : Int32} (hd : decode x.2.2.1 pc = .ok (.istore_n 2, 1)) (hb : 2 < x.2.2.2.1) (hp : aw_c1 u1 = true) (n : GW x Q k ws kc kn (pc + 1) (u0 :: u1 :: some (.int v) :: r) st) : GW x Q k ws kc kn pc (u0 :: u1 :: b :: r) (.int v :: st) := by
  obtain ⟨p, e, s, m, args, below, meth, c, A⟩ := k
  exact fun H lo la a1 a2 a3 a4 => lv_istore_n K.1 K.2.1 hd rfl (aw_lh_has a1) hb rfl (fun la' hl => n H lo la' (aw_set1 (L := u0 :: u1 :: b :: r) hl (fun j w hj => aw_ac_of hj) (fun j o hj ho => by
    obtain rfl : j = 1 := by omega
    simp at ho
    subst ho
    exact hp)) a2 a3 a4)
theorem gw_al2 (K : GOK x k) {u0 u1 : Option Value} {r : List (Option Value)} {v : Nat} (hd : decode x.2.2.1 pc = .ok (.aload_n 2, 1)) (n : GW x Q k ws kc kn (pc + 1) (u0 :: u1 :: some (.ref v) :: r) (.ref v :: st)) : GW x Q k ws kc kn pc (u0 :: u1 :: some (.ref v) :: r) st := by
  obtain ⟨p, e, s, m, args, below, meth, c, A⟩ := k
  exact fun H lo la a1 a2 a3 a4 => lv_aload_n K.1 K.2.1 hd rfl (a1.2.2 2 _ rfl) (n H lo la a1 a2 a3 a4)
theorem gw_as2 (K : GOK x k) {u0 u1 : Option Value} {b : Option Value} {r : List (Option Value)} {v : Nat} (hd : decode x.2.2.1 pc = .ok (.astore_n 2, 1)) (hb : 2 < x.2.2.2.1) (hp : aw_c1 u1 = true) (n : GW x Q k ws kc kn (pc + 1) (u0 :: u1 :: some (.ref v) :: r) st) : GW x Q k ws kc kn pc (u0 :: u1 :: b :: r) (.ref v :: st) := by
  obtain ⟨p, e, s, m, args, below, meth, c, A⟩ := k
  exact fun H lo la a1 a2 a3 a4 => lv_astore_n K.1 K.2.1 hd rfl (aw_lh_has a1) hb rfl (fun la' hl => n H lo la' (aw_set1 (L := u0 :: u1 :: b :: r) hl (fun j w hj => aw_ac_of hj) (fun j o hj ho => by
    obtain rfl : j = 1 := by omega
    simp at ho
    subst ho
    exact hp)) a2 a3 a4)
theorem gw_il3 (K : GOK x k) {u0 u1 u2 : Option Value} {r : List (Option Value)} {v : Int32} (hd : decode x.2.2.1 pc = .ok (.iload_n 3, 1)) (n : GW x Q k ws kc kn (pc + 1) (u0 :: u1 :: u2 :: some (.int v) :: r) (.int v :: st)) : GW x Q k ws kc kn pc (u0 :: u1 :: u2 :: some (.int v) :: r) st := by
  obtain ⟨p, e, s, m, args, below, meth, c, A⟩ := k
  exact fun H lo la a1 a2 a3 a4 => lv_iload_n K.1 K.2.1 hd rfl (a1.2.2 3 _ rfl) (n H lo la a1 a2 a3 a4)
theorem gw_is3 (K : GOK x k) {u0 u1 u2 : Option Value} {b : Option Value} {r : List (Option Value)} {v : Int32} (hd : decode x.2.2.1 pc = .ok (.istore_n 3, 1)) (hb : 3 < x.2.2.2.1) (hp : aw_c1 u2 = true) (n : GW x Q k ws kc kn (pc + 1) (u0 :: u1 :: u2 :: some (.int v) :: r) st) : GW x Q k ws kc kn pc (u0 :: u1 :: u2 :: b :: r) (.int v :: st) := by
  obtain ⟨p, e, s, m, args, below, meth, c, A⟩ := k
  exact fun H lo la a1 a2 a3 a4 => lv_istore_n K.1 K.2.1 hd rfl (aw_lh_has a1) hb rfl (fun la' hl => n H lo la' (aw_set1 (L := u0 :: u1 :: u2 :: b :: r) hl (fun j w hj => aw_ac_of hj) (fun j o hj ho => by
    obtain rfl : j = 2 := by omega
    simp at ho
    subst ho
    exact hp)) a2 a3 a4)
theorem gw_al3 (K : GOK x k) {u0 u1 u2 : Option Value} {r : List (Option Value)} {v : Nat} (hd : decode x.2.2.1 pc = .ok (.aload_n 3, 1)) (n : GW x Q k ws kc kn (pc + 1) (u0 :: u1 :: u2 :: some (.ref v) :: r) (.ref v :: st)) : GW x Q k ws kc kn pc (u0 :: u1 :: u2 :: some (.ref v) :: r) st := by
  obtain ⟨p, e, s, m, args, below, meth, c, A⟩ := k
  exact fun H lo la a1 a2 a3 a4 => lv_aload_n K.1 K.2.1 hd rfl (a1.2.2 3 _ rfl) (n H lo la a1 a2 a3 a4)
theorem gw_as3 (K : GOK x k) {u0 u1 u2 : Option Value} {b : Option Value} {r : List (Option Value)} {v : Nat} (hd : decode x.2.2.1 pc = .ok (.astore_n 3, 1)) (hb : 3 < x.2.2.2.1) (hp : aw_c1 u2 = true) (n : GW x Q k ws kc kn (pc + 1) (u0 :: u1 :: u2 :: some (.ref v) :: r) st) : GW x Q k ws kc kn pc (u0 :: u1 :: u2 :: b :: r) (.ref v :: st) := by
  obtain ⟨p, e, s, m, args, below, meth, c, A⟩ := k
  exact fun H lo la a1 a2 a3 a4 => lv_astore_n K.1 K.2.1 hd rfl (aw_lh_has a1) hb rfl (fun la' hl => n H lo la' (aw_set1 (L := u0 :: u1 :: u2 :: b :: r) hl (fun j w hj => aw_ac_of hj) (fun j o hj ho => by
    obtain rfl : j = 2 := by omega
    simp at ho
    subst ho
    exact hp)) a2 a3 a4)
theorem gw_ii1 (K : GOK x k) {u0 : Option Value} {r : List (Option Value)} {v v2 : Int32} {n0 : Int} (hd : decode x.2.2.1 pc = .ok (.iinc 1 n0, 3)) (hv : v + Int32.ofInt n0 = v2) (hb : 1 < x.2.2.2.1) (hp : aw_c1 u0 = true) (n : GW x Q k ws kc kn (pc + 3) (u0 :: some (.int v2) :: r) st) : GW x Q k ws kc kn pc (u0 :: some (.int v) :: r) st := by
  obtain ⟨p, e, s, m, args, below, meth, c, A⟩ := k
  intro H lo la a1 a2 a3 a4
  have hh : lv_has la x.2.2.2.1 ((1, .int v) :: aw_ac 0 (u0 :: some (.int v) :: r)) := by
    refine ⟨a1.1, a1.2.1, fun q hq => ?_⟩
    rcases List.mem_cons.mp hq with rfl | hq
    · exact a1.2.2 1 _ rfl
    · exact (aw_lh_has a1).2.2 q hq
  exact lv_iinc K.1 K.2.1 hd hh (k := 0) rfl hv hb rfl (fun la' hl => n H lo la' (aw_set1 (L := u0 :: some (.int v) :: r) hl (fun j w hj => List.mem_cons_of_mem _ (aw_ac_of hj)) (fun j o hj ho => by
    obtain rfl : j = 0 := by omega
    simp at ho
    subst ho
    exact hp)) a2 a3 a4)
theorem gw_ii3 (K : GOK x k) {u0 u1 u2 : Option Value} {r : List (Option Value)} {v v2 : Int32} {n0 : Int} (hd : decode x.2.2.1 pc = .ok (.iinc 3 n0, 3)) (hv : v + Int32.ofInt n0 = v2) (hb : 3 < x.2.2.2.1) (hp : aw_c1 u2 = true) (n : GW x Q k ws kc kn (pc + 3) (u0 :: u1 :: u2 :: some (.int v2) :: r) st) : GW x Q k ws kc kn pc (u0 :: u1 :: u2 :: some (.int v) :: r) st := by
  obtain ⟨p, e, s, m, args, below, meth, c, A⟩ := k
  intro H lo la a1 a2 a3 a4
  have hh : lv_has la x.2.2.2.1 ((3, .int v) :: aw_ac 0 (u0 :: u1 :: u2 :: some (.int v) :: r)) := by
    refine ⟨a1.1, a1.2.1, fun q hq => ?_⟩
    rcases List.mem_cons.mp hq with rfl | hq
    · exact a1.2.2 3 _ rfl
    · exact (aw_lh_has a1).2.2 q hq
  exact lv_iinc K.1 K.2.1 hd hh (k := 0) rfl hv hb rfl (fun la' hl => n H lo la' (aw_set1 (L := u0 :: u1 :: u2 :: some (.int v) :: r) hl (fun j w hj => List.mem_cons_of_mem _ (aw_ac_of hj)) (fun j o hj ho => by
    obtain rfl : j = 2 := by omega
    simp at ho
    subst ho
    exact hp)) a2 a3 a4)
/-! cells that are made -/
theorem gw_newI (K : GOK x k) {n1 : Int32} {N : Nat} (hw : Cond.arrayClass .int ∈ aw_tb) (hn : ¬ n1 < 0) (hN : n1.toNatClampNeg = N) (hby : N * componentBytes .int ≤ 536870912) (hc : kc + 1 ≤ x.2.1.2.1) (hs : kn + N ≤ x.2.1.2.2) (hd : decode x.2.2.1 pc = .ok (.newarray .int, 2))
    (n : ∀ q : Nat, GW x Q k (ws ++ [(q, .inl (x.1.2.2.1, N, .inl (fun _ => 0)))]) (kc + 1) (kn + N) (pc + 2) L (.ref q :: st)) : GW x Q k ws kc kn pc L (.int n1 :: st) := by
  obtain ⟨p, e, s, m, args, below, meth, c, A⟩ := k
  obtain ⟨k1, k2, k3, k4, k5, k6, k7, k8, k9, k10⟩ := K
  intro H lo la a1 a2 a3 a4
  refine va_newa (atype := .int) k1 k2 (k5 _ hw) (ty := .int) rfl k7 a2 a3 a4 k8 (a0 := (N, .inl (fun _ => 0))) (fun _ => rfl) hn hN hby hc hs hd (fun q cA H1 hK1 b2 b3 b4 => ?_)
  have e1 : cA = x.1.2.2.1 := Option.some.inj ((show s.vm.findClass _ = some cA from (hK1.2 3 (cA, .int) rfl).2).symm.trans (show s.vm.findClass _ = some x.1.2.2.1 from (k7.2 0 (x.1.2.2.1, .int) rfl).2))
  subst e1
  exact n q H1 lo la a1 b2 b3 b4
theorem gw_newZ (K : GOK x k) {n1 : Int32} {N : Nat} (hw : Cond.arrayClass .boolean ∈ aw_tb) (hn : ¬ n1 < 0) (hN : n1.toNatClampNeg = N) (hby : N * componentBytes .boolean ≤ 536870912) (hc : kc + 1 ≤ x.2.1.2.1) (hs : kn + N ≤ x.2.1.2.2) (hd : decode x.2.2.1 pc = .ok (.newarray .boolean, 2))
    (n : ∀ q : Nat, GW x Q k (ws ++ [(q, .inl (x.1.2.2.2.1, N, .inl (fun _ => 0)))]) (kc + 1) (kn + N) (pc + 2) L (.ref q :: st)) : GW x Q k ws kc kn pc L (.int n1 :: st) := by
  obtain ⟨p, e, s, m, args, below, meth, c, A⟩ := k
  obtain ⟨k1, k2, k3, k4, k5, k6, k7, k8, k9, k10⟩ := K
  intro H lo la a1 a2 a3 a4
  refine va_newa (atype := .boolean) k1 k2 (k5 _ hw) (ty := .boolean) rfl k7 a2 a3 a4 k8 (a0 := (N, .inl (fun _ => 0))) (fun _ => rfl) hn hN hby hc hs hd (fun q cA H1 hK1 b2 b3 b4 => ?_)
  have e1 : cA = x.1.2.2.2.1 := Option.some.inj ((show s.vm.findClass _ = some cA from (hK1.2 3 (cA, .boolean) rfl).2).symm.trans (show s.vm.findClass _ = some x.1.2.2.2.1 from (k7.2 1 (x.1.2.2.2.1, .boolean) rfl).2))
  subst e1
  exact n q H1 lo la a1 b2 b3 b4
theorem gw_newQ (K : GOK x k) {n1 : Int32} {N index : Nat} (hcl : Cond.classLink x.2.2.2.2 index "ManyNames$Sheet" ∈ aw_tb) (hn : ¬ n1 < 0) (hN : n1.toNatClampNeg = N) (hby : N * 4 ≤ 536870912) (hc : kc + 1 ≤ x.2.1.2.1) (hs : kn + N ≤ x.2.1.2.2) (hd : decode x.2.2.1 pc = .ok (.anewarray index, 3))
    (n : ∀ q : Nat, GW x Q k (ws ++ [(q, .inl (x.1.2.2.2.2.1, N, .inr (.inr (.inr (.inr (fun _ => none))))))]) (kc + 1) (kn + N) (pc + 3) L (.ref q :: st)) : GW x Q k ws kc kn pc L (.int n1 :: st) := by
  obtain ⟨p, e, s, m, args, below, meth, c, A⟩ := k
  obtain ⟨k1, k2, k3, k4, k5, k6, k7, k8, k9, k10⟩ := K
  intro H lo la a1 a2 a3 a4
  refine va_newq k1 k2 k4 (k5 _ hcl) k9.2 k7 a2 a3 a4 k8 hn hN hby hc hs hd (fun q cA H1 hK1 b2 b3 b4 => ?_)
  obtain ⟨kA, comp, r1, r2, r3, r4⟩ := (show va_RA s cA (.object "ManyNames$Sheet") from (hK1.2 3 (cA, .object "ManyNames$Sheet") rfl).2)
  obtain ⟨kB, compB, t1, t2, t3, t4⟩ := (show va_RA s x.1.2.2.2.2.1 (.object "ManyNames$Sheet") from (k7.2 2 (x.1.2.2.2.2.1, .object "ManyNames$Sheet") rfl).2)
  have e1 : cA = x.1.2.2.2.2.1 := Option.some.inj (r4.symm.trans t4)
  subst e1
  exact n q H1 lo la a1 b2 b3 b4
theorem gw_new (K : GOK x k) {index ci N : Nat} {C : String} {T : u_T} {ty : Nat → FieldType} {fs : List Value} (hc0 : vwCl[ci]? = some (C, T, N)) (hin : ∀ w ∈ u_ws C T N, w ∈ aw_tb) (hty : ∀ k, k < N → parseFieldDescriptor (T k).2.2.1 = some (ty k)) (hcl : Cond.classLink x.2.2.2.2 index C ∈ aw_tb) (hi : Cond.instantiable C N ∈ aw_tb) (hini : Cond.initialized C ∈ aw_tb) (hfs : ∀ j, j < N → defaultValue (ty j) = vp_V fs j) (hc : kc + 1 ≤ x.2.1.2.1) (hs : kn + N ≤ x.2.1.2.2) (hd : decode x.2.2.1 pc = .ok (.new index, 3))
    (n : ∀ q : Nat, GW x Q k (ws ++ [(q, .inr (ci, fs))]) (kc + 1) (kn + N) (pc + 3) L (.ref q :: st)) : GW x Q k ws kc kn pc L st := by
  obtain ⟨p, e, s, m, args, below, meth, c, A⟩ := k
  obtain ⟨k1, k2, k3, k4, k5, k6, k7, k8, k9, k10⟩ := K
  intro H lo la a1 a2 a3 a4
  exact va_new k1 k2 (Ts := aw_tb) k5 hin ty hty k4 (k5 _ hcl) (k5 _ hi) (k5 _ hini) k7 a2 a3 a4 k8 hc0 hfs hc hs hd (fun q H1 b2 b3 b4 => n q H1 lo la a1 b2 b3 b4)
/-! fields -/
theorem gw_putF (K : GOK x k) (hnm : k.2.2.2.2.2.2.1.name = "<init>") {index ci j a q0 : Nat} {fs : List Value} {ty : FieldType} {v : Value} (fl : FL x.2.2.2.2 index ci j) (ff : FF x.2.2.2.2 ci j ty) (he : ws[q0]? = some (a, .inr (ci, fs))) (hn : narrow ty v = v) (hfit : fits ty v = true) (hl : j < fs.length) (hd : decode x.2.2.1 pc = .ok (.putfield index, 3))
    (n : GW x Q k (ws.set q0 (a, .inr (ci, fs.set j v))) kc kn (pc + 3) L st) : GW x Q k ws kc kn pc L (v :: .ref a :: st) := by
  obtain ⟨p, e, s, m, args, below, meth, c, A⟩ := k
  obtain ⟨C, T, N, h1, h2, h3, h4, h5⟩ := fl
  obtain ⟨C', T', N', tys, g1, g2, g3, g4, g5, g6⟩ := ff
  cases h1.symm.trans g1
  obtain ⟨k1, k2, k3, k4, k5, k6, k7, k8, k9, k10⟩ := K
  intro H lo la a1 a2 a3 a4
  exact va_putF k1 k2 (Ts := aw_tb) k5 h4 tys g2 g3 k4 k7 a2 a3 a4 q0 he h1 j h2 (k5 _ h3) (fun x hx => by rw [h5] at hx; exact hx) g4 hnm g6 g5 hn hfit hl hd (fun H1 lo1 b2 b3 b4 => n H1 lo1 la a1 b2 b3 b4)
theorem gw_put (K : GOK x k) {index ci j a q0 : Nat} {fs : List Value} {ty : FieldType} {v : Value} (fl : FL x.2.2.2.2 index ci j) (fp : FP_ ci j ty) (he : ws[q0]? = some (a, .inr (ci, fs))) (hn : narrow ty v = v) (hfit : fits ty v = true) (hl : j < fs.length) (hd : decode x.2.2.1 pc = .ok (.putfield index, 3))
    (n : GW x Q k (ws.set q0 (a, .inr (ci, fs.set j v))) kc kn (pc + 3) L st) : GW x Q k ws kc kn pc L (v :: .ref a :: st) := by
  obtain ⟨p, e, s, m, args, below, meth, c, A⟩ := k
  obtain ⟨C, T, N, h1, h2, h3, h4, h5⟩ := fl
  obtain ⟨C', T', N', tys, g1, g2, g3, g4, g5⟩ := fp
  cases h1.symm.trans g1
  obtain ⟨k1, k2, k3, k4, k5, k6, k7, k8, k9, k10⟩ := K
  intro H lo la a1 a2 a3 a4
  exact va_put k1 k2 (Ts := aw_tb) k5 h4 tys g2 g3 k4 k7 a2 a3 a4 q0 he h1 j h2 (k5 _ h3) (fun x hx => by rw [h5] at hx; exact hx) g4 g5 hn hfit hl hd (fun H1 lo1 b2 b3 b4 => n H1 lo1 la a1 b2 b3 b4)
theorem gw_get (K : GOK x k) {index ci j a q0 : Nat} {fs : List Value} {v : Value} (fl : FL x.2.2.2.2 index ci j) (he : ws[q0]? = some (a, .inr (ci, fs))) (hv : fs[j]? = some v) (hd : decode x.2.2.1 pc = .ok (.getfield index, 3))
    (n : GW x Q k ws kc kn (pc + 3) L (v :: st)) : GW x Q k ws kc kn pc L (.ref a :: st) := by
  obtain ⟨p, e, s, m, args, below, meth, c, A⟩ := k
  obtain ⟨C, T, N, h1, h2, h3, h4, h5⟩ := fl
  obtain ⟨k1, k2, k3, k4, k5, k6, k7, k8, k9, k10⟩ := K
  intro H lo la a1 a2 a3 a4
  exact va_get k1 k2 (Ts := aw_tb) k5 h4 k4 k7 a2 q0 he h1 j h2 (k5 _ h3) (fun x hx => by rw [h5] at hx; exact hx) hv hd (n H lo la a1 a2 a3 a4)
theorem gw_iast (K : GOK x k) {a q0 n0 : Nat} {f : Nat → Int32} {i v : Int32} (he : ws[q0]? = some (a, .inl (x.1.2.2.1, n0, .inl f))) (hin : vp_in i n0) (hd : decode x.2.2.1 pc = .ok (.iastore, 1))
    (n : GW x Q k (ws.set q0 (a, .inl (x.1.2.2.1, n0, .inl (upd f i.toNatClampNeg v)))) kc kn (pc + 1) L st) : GW x Q k ws kc kn pc L (.int v :: .int i :: .ref a :: st) := by
  obtain ⟨p, e, s, m, args, below, meth, c, A⟩ := k
  obtain ⟨k1, k2, k3, k4, k5, k6, k7, k8, k9, k10⟩ := K
  intro H lo la a1 a2 a3 a4
  exact va_iast k1 k2 k7 a2 a3 a4 q0 0 he rfl hin hd (fun H1 lo1 b2 b3 b4 => n H1 lo1 la a1 b2 b3 b4)
theorem gw_aast (K : GOK x k) {a q0 qk ci n0 v : Nat} {r : vw_C} {vs : List Value} {f : Nat → Option Nat} {i : Int32} (he : ws[q0]? = some (a, .inl (x.1.2.2.2.2.1, n0, .inr (.inr (.inr (.inr f)))))) (hv : ws[qk]? = some (v, .inr (ci, vs))) (hc : vwCl[ci]? = some r) (hr : r.1 = "ManyNames$Sheet") (hin : vp_in i n0) (hd : decode x.2.2.1 pc = .ok (.aastore, 1))
    (n : GW x Q k (ws.set q0 (a, .inl (x.1.2.2.2.2.1, n0, .inr (.inr (.inr (.inr (va_up f i.toNatClampNeg (some v)))))))) kc kn (pc + 1) L st) : GW x Q k ws kc kn pc L (.ref v :: .int i :: .ref a :: st) := by
  obtain ⟨p, e, s, m, args, below, meth, c, A⟩ := k
  obtain ⟨k1, k2, k3, k4, k5, k6, k7, k8, k9, k10⟩ := K
  intro H lo la a1 a2 a3 a4
  exact va_astq k1 k2 k7 a2 a3 a4 q0 2 qk ci he (by rw [hr]; rfl) hv hc hin hd (fun H1 lo1 b2 b3 b4 => n H1 lo1 la a1 b2 b3 b4)
theorem gw_gets (K : GOK x k) {index i : Nat} (hi : i < 3) (hl : Cond.fieldLink x.2.2.2.2 index "ManyNames" (aw_sn i) "[I" ∈ aw_tb) (hd : decode x.2.2.1 pc = .ok (.getstatic index, 3)) (n : GW x Q k ws kc kn (pc + 3) L (.ref (x.1.2.2.2.2.2 i) :: st)) : GW x Q k ws kc kn pc L st := by
  obtain ⟨p, e, s, m, args, below, meth, c, A⟩ := k
  obtain ⟨k1, k2, k3, k4, k5, k6, k7, k8, k9, k10⟩ := K
  exact fun H lo la a1 a2 a3 a4 => va_gets k1 k2 (k10.at i hi).1 a4 k4 (k5 _ hl) (fun _ hx => hx) hd (n H lo la a1 a2 a3 a4)
theorem gw_copyS (K : GOK x k) {index i q0 a n0 : Nat} {f : Nat → Int32} {sp dp n1 : Int32} (hi : i < 3) (cp : CPW x.2.2.2.2 index) (hnat : Cond.native arraycopyName ∈ aw_tb) (he : ws[q0]? = some (a, .inl (x.1.2.2.1, n0, .inl f))) (h1 : ¬ sp < 0) (h2 : ¬ dp < 0) (h3 : ¬ n1 < 0) (h4 : sp.toNatClampNeg + n1.toNatClampNeg ≤ 10) (h5 : dp.toNatClampNeg + n1.toNatClampNeg ≤ n0) (hf : 1 ≤ x.2.1.1) (hlo : (st.map fun v => v.category).sum + (nativeFrameWords "java/lang/System" "arraycopy" 5 + 11) ≤ 36 * x.2.1.1) (hd : decode x.2.2.1 pc = .ok (.invokestatic index, 3))
    (n : GW x Q k (ws.set q0 (a, .inl (x.1.2.2.1, n0, .inl (va_cpy (aw_sf i) f sp.toNatClampNeg dp.toNatClampNeg n1.toNatClampNeg)))) kc kn (pc + 3) L st) : GW x Q k ws kc kn pc L (.int n1 :: .int dp :: .ref a :: .int sp :: .ref (x.1.2.2.2.2.2 i) :: st) := by
  obtain ⟨p, e, s, m, args, below, meth, c, A⟩ := k
  obtain ⟨k1, k2, k3, k4, k5, k6, k7, k8, k9, k10⟩ := K
  have hz := k10.at i hi
  intro H lo la a1 a2 a3 a4
  exact va_copyx k1 k2 (k3.trans a1.1.symm) k4 (k5 _ cp.1) (k5 _ hnat) (k5 _ cp.2.2.1) (k5 _ cp.2.2.2) k7 a2 a3 a4 hz.2.1 hz.2.2.1 hz.2.2.2 q0 0 he rfl h1 h2 h3 h4 h5 hf hlo hd (fun H1 lo1 b2 b3 b4 => n H1 lo1 la a1 b2 b3 b4)
theorem gw_objInit (K : GOK x k) {index a : Nat} (hl : Cond.methodLink x.2.2.2.2 index Lib.objectInit ∈ aw_tb) (hi : Cond.instanceMethod Lib.objectInit ∈ aw_tb) (hc : Cond.code Lib.objectInit ⟨#[0xb1]⟩ 1 none ∈ aw_tb) (hf : 1 ≤ x.2.1.1) (hlo : (st.map fun v => v.category).sum + 12 ≤ 36 * x.2.1.1) (hd : decode x.2.2.1 pc = .ok (.invokespecial index, 3))
    (n : GW x Q k ws kc kn (pc + 3) L st) : GW x Q k ws kc kn pc L (.ref a :: st) := by
  obtain ⟨p, e, s, m, args, below, meth, c, A⟩ := k
  obtain ⟨k1, k2, k3, k4, k5, k6, k7, k8, k9, k10⟩ := K
  intro H lo la a1 a2 a3 a4
  refine W.objInit k1 k2 k4 (k5 _ hl) (k5 _ hi) (k5 _ hc) rfl (a1.1.trans k3.symm) rfl hd hf (by show 2 * 0 + _ + 12 ≤ 36 * _; omega) ?_
  exact n H lo la a1 a2 a3 a4
/-! joining: what came back stands beside the rest, which is unchanged -/
theorem gw_P_l {D : va_G} {w1 w2 : va_W} {H : Heap} (h : va_P D vwCl (w1 ++ w2) H) : va_P D vwCl w1 H := fun i q hi => h i q (by rw [List.getElem?_append_left ((List.getElem?_eq_some_iff.mp hi).1)]; exact hi)
theorem gw_P_r {D : va_G} {w1 w2 : va_W} {H : Heap} (h : va_P D vwCl (w1 ++ w2) H) : va_P D vwCl w2 H := fun i q hi => h (w1.length + i) q (by rw [List.getElem?_append_right (by omega), Nat.add_sub_cancel_left]; exact hi)
theorem gw_D_l {A : Nat → Prop} {w1 w2 : va_W} (h : va_D A (w1 ++ w2)) : va_D A w1 := by
  have key : ∀ (i : Nat) (q : Nat × va_E), w1[i]? = some q → (w1 ++ w2)[i]? = some q := fun i q hi => by rw [List.getElem?_append_left ((List.getElem?_eq_some_iff.mp hi).1)]; exact hi
  exact ⟨fun i j p q hi hj hpq => h.1 i j p q (key i p hi) (key j q hj) hpq, fun i q hi => h.2 i q (key i q hi)⟩
theorem gw_D_r {A : Nat → Prop} {w1 w2 : va_W} (h : va_D A (w1 ++ w2)) : va_D A w2 := by
  have key : ∀ (i : Nat) (q : Nat × va_E), w2[i]? = some q → (w1 ++ w2)[w1.length + i]? = some q := fun i q hi => by rw [List.getElem?_append_right (by omega), Nat.add_sub_cancel_left]; exact hi
  exact ⟨fun i j p q hi hj hpq => by have := h.1 _ _ p q (key i p hi) (key j q hj) hpq; omega, fun i q hi => h.2 _ q (key i q hi)⟩
theorem gw_D_x {A : Nat → Prop} {w1 w2 : va_W} (h : va_D A (w1 ++ w2)) {i j : Nat} {p q : Nat × va_E} (hi : w1[i]? = some p) (hj : w2[j]? = some q) : p.1 ≠ q.1 := by
  intro e
  have h1 := (List.getElem?_eq_some_iff.mp hi).1
  have := h.1 i (w1.length + j) p q (by rw [List.getElem?_append_left h1]; exact hi) (by rw [List.getElem?_append_right (by omega), Nat.add_sub_cancel_left]; exact hj) e
  omega
theorem gw_apart {A : Nat → Prop} {D : va_G} {wr wc : va_W} {H : Heap} (hP : va_P D vwCl wr H) (hx : ∀ (i j : Nat) (p q : Nat × va_E), wr[i]? = some p → wc[j]? = some q → p.1 ≠ q.1) {i : Nat} {p : Nat × va_E} (hi : wr[i]? = some p) : p.1 < H.size ∧ ¬ va_A wc H.size p.1 := by
  have hl := (hP i p hi).lt
  refine ⟨hl, fun h => ?_⟩
  rcases h with ⟨j, e, hj⟩ | h
  · exact hx i j p _ hi hj rfl
  · omega
theorem gw_joinR {A0 : Nat → Prop} {D : va_G} {wr wc w1 : va_W} {H H1 : Heap} (hP : va_P D vwCl (wr ++ wc) H) (hD : va_D A0 (wr ++ wc)) (hk : ∀ q : Nat, q < H.size → ¬ va_A wc H.size q → H1[q]? = H[q]?) (hF : ∀ q, va_A wc H.size q → A0 q) (hP1 : va_P D vwCl w1 H1) (hD1 : va_D (va_A wc H.size) w1) : va_P D vwCl (wr ++ w1) H1 ∧ va_D A0 (wr ++ w1) := by
  have ap : ∀ (i : Nat) (p : Nat × va_E), wr[i]? = some p → p.1 < H.size ∧ ¬ va_A wc H.size p.1 := fun i p hi => gw_apart (A := A0) (gw_P_l hP) (fun i j p q hi hj => gw_D_x hD hi hj) hi
  refine ⟨va_P.app (fun i p hi => (gw_P_l hP i p hi).kept (hk p.1 (ap i p hi).1 (ap i p hi).2)) hP1, va_D.app (gw_D_l hD) (hD1.weaken (fun _ q _ h => hF q.1 h)) (fun i j p q hi hj e => ?_)⟩
  exact (ap i p hi).2 (by rw [e]; exact hD1.2 j q hj)
theorem gw_joinL {A0 : Nat → Prop} {D : va_G} {wr wc w1 : va_W} {H H1 : Heap} (hP : va_P D vwCl (wc ++ wr) H) (hD : va_D A0 (wc ++ wr)) (hk : ∀ q : Nat, q < H.size → ¬ va_A wc H.size q → H1[q]? = H[q]?) (hF : ∀ q, va_A wc H.size q → A0 q) (hP1 : va_P D vwCl w1 H1) (hD1 : va_D (va_A wc H.size) w1) : va_P D vwCl (w1 ++ wr) H1 ∧ va_D A0 (w1 ++ wr) := by
  have ap : ∀ (i : Nat) (p : Nat × va_E), wr[i]? = some p → p.1 < H.size ∧ ¬ va_A wc H.size p.1 := fun i p hi => gw_apart (A := A0) (gw_P_r hP) (fun i j p q hi hj => (gw_D_x hD hj hi).symm) hi
  refine ⟨va_P.app hP1 (fun i p hi => (gw_P_r hP i p hi).kept (hk p.1 (ap i p hi).1 (ap i p hi).2)), va_D.app (hD1.weaken (fun _ q _ h => hF q.1 h)) (gw_D_r hD) (fun i j p q hi hj e => ?_)⟩
  exact (ap j q hj).2 (by rw [← e]; exact hD1.2 i p hi)
/-! constructors -/
abbrev G6 : Type := Launch × va_G × ClassId × ClassId × ClassId × (Nat → Nat)
def gw_B (z : G6) (ws : va_W) (sz : Nat) : State → Prop := fun U => U.heap.size = sz ∧ va_P z.2.1 vwCl ws U.heap ∧ va_K z.2.1 vwCl [(z.2.2.1, .int), (z.2.2.2.1, .boolean), (z.2.2.2.2.1, .object "ManyNames$Sheet")] U ∧ va_D (fun _ => True) ws ∧ aw_N U ∧ aw_Z z.2.2.2.2.2 (va_A ws sz) U U.heap
def gw_Q (z : G6) (A : Nat → Prop) (S : va_W → Prop) : Array Value → State → Outcome → State → Prop := fun _ st oc t => (oc = .returned none ∧ ∃ ws' : va_W, S ws' ∧ va_P z.2.1 vwCl ws' t.heap ∧ va_D A ws') ∧ va_F A st t
def NCT (z : G6) (d mc ms : Nat) (mi : MI) (h0 : Nat) (e0 : va_E) (S : va_W → Prop) : Prop :=
  ∀ sz : Nat, Met z.1 mi.1 (aw_ws mi) (aw_rn d mc ms) (va_Pc [.ref h0] (gw_B z [(h0, e0)] sz)) (gw_Q z (va_A [(h0, e0)] sz) S) mc ms (va_A [(h0, e0)] sz)
theorem NCT.of {z : G6} {d mc ms : Nat} {mi : MI} {h0 : Nat} {e0 : va_E} {S : va_W → Prop} (hy : plainName mi.1.cls = true) (hnm : mi.1.name = "<init>") (L0 : List (Option Value)) (pad : Nat) (hL : aw_en [.ref h0] ++ List.replicate pad none = L0) (hn : (lg_sl [Value.ref h0]).length ≤ mi.2.2.1)
    (body : ∀ k : KT, GOK (z, (d, mc, ms), mi.2.1, mi.2.2.1, mi.1.cls) k → k.2.2.2.2.2.2.1.name = "<init>" → k.2.2.2.2.2.2.1.sig.returnType = mi.2.2.2 → GW (z, (d, mc, ms), mi.2.1, mi.2.2.1, mi.1.cls) (MQ k.2.2.2.2.2.1 (gw_Q z k.2.2.2.2.2.2.2.2 S) k.2.2.2.2.1 k.2.2.1 mc ms k.2.2.2.2.2.2.2.2) k [(h0, e0)] 0 0 0 L0 []) : NCT z d mc ms mi h0 e0 S := by
  intro sz
  refine Met.ofW (cc := mi.2.1) (maxL := mi.2.2.1) (ret := mi.2.2.2) hy rfl ?_
  intro p e s m args below meth c s₁ B hml hv
  obtain ⟨rfl, hsz, hP, hK, hD0, hN, hZ⟩ := hv
  have hts := atoms_spec (ws := aw_ws mi) B.pre
  have hown : s.vm.findClass mi.1.cls = some m.cls := findClass_of_methodNamed B.named
  have hin : meth.name = "<init>" := by rw [← hnm]; exact (name_of_methodNamed B.named B.method).1
  subst hsz
  have hD := hD0.self (sz := s.heap.size)
  have hb := body (p, e, s, m, [Value.ref h0].toArray, below, meth, c, va_A [(h0, e0)] s.heap.size) ⟨B.exec, B.bytes, hml, hown, fun w hw => hts w (List.mem_cons_of_mem _ hw), B.notSynchronized, hK, fun q hq => Or.inr hq, hN, hZ⟩ hin B.returns
  have hl := lv_entry [Value.ref h0] (n := mi.2.2.1) hn
  rw [lg_entry_eq]
  refine hb _ _ _ ⟨hl.1, hl.2.1, fun i v hi => ?_⟩ hP hD va_S.rf
  rw [← hL] at hi
  by_cases hlt : i < (aw_en [Value.ref h0]).length
  · rw [List.getElem?_append_left hlt] at hi
    have := aw_en_mem [Value.ref h0] 0 i v hi
    rw [Nat.zero_add] at this
    exact hl.2.2 (i, v) this
  · rw [List.getElem?_append_right (by omega), List.getElem?_replicate] at hi
    split at hi <;> simp at hi
theorem gw_vret {S : va_W → Prop} {z : G6} {d mc ms : Nat} {mi : MI} (K : GOK (z, (d, mc, ms), mi.2.1, mi.2.2.1, mi.1.cls) k) (hret : k.2.2.2.2.2.2.1.sig.returnType = mi.2.2.2) (hr : mi.2.2.2 = none) (hd : decode mi.2.1 pc = .ok (.return_, 1)) (hk : kc = mc) (hm : kn = ms) (hs : S ws) : GW (z, (d, mc, ms), mi.2.1, mi.2.2.1, mi.1.cls) (MQ k.2.2.2.2.2.1 (gw_Q z k.2.2.2.2.2.2.2.2 S) k.2.2.2.2.1 k.2.2.1 mc ms k.2.2.2.2.2.2.2.2) k ws kc kn pc L [] := by
  subst hk
  subst hm
  obtain ⟨p, e, s, m, args, below, meth, c, A⟩ := k
  obtain ⟨k1, k2, k3, k4, k5, k6, k7, k8, k9, k10⟩ := K
  exact fun H lo la a1 a2 a3 a4 => W.vret k1 k2 (hret.trans hr) (fun t ht _ => ⟨⟨rfl, ws, hs, by rw [ht]; exact a2, a3⟩, a4.F ht⟩) a4.2.2 hd k6
theorem gw_afterC {z : G6} {p : Program} {e : Env} {s : State} {m : MethodId} {args : Array Value} {below : List Frame} {meth : Method} {c : Code} {A A1 : Nat → Prop} {H : Heap} {lo : List Loc} {la : Array Slot} {stk : List Value} {S : va_W → Prop} {a : Array Value} {R : Room} {mc ms : Nat}
    (hr : va_Run p z.1 e R s m args below meth c H lo kc kn mc ms (F0 m pc la stk) st (gw_Q z A1 S a) A1) (hS : va_S A s.heap H lo) (hA : ∀ q, A1 q → A q)
    (kk : ∀ (w1 : va_W) (H1 : Heap) (lo1 : List Loc), S w1 → va_P z.2.1 vwCl w1 H1 → va_D A1 w1 → (∀ q : Nat, q < H.size → ¬ A1 q → H1[q]? = H[q]?) → va_S A s.heap H1 lo1 → W p z.1 e R s m args below meth c H1 lo1 (kc + mc) (kn + ms) Q (F0 m (pc + 3) la st)) : W p z.1 e R s m args below meth c H lo kc kn Q (F0 m pc la stk) := by
  intro T hT X
  obtain ⟨v, st₀, t, T', Lc, h0, X', hL, e1, e2, ⟨⟨hv, w1, hp, hb, hd1⟩, hz, hk⟩, stp⟩ := hr T hT X
  cases hv
  rw [h0] at hz hk
  obtain ⟨t2, a1, b1⟩ := kk w1 T'.heap (lo ++ Lc) hp (by rw [e1]; exact hb) hd1 (fun q h1 h2 => by rw [e1]; exact hk q h1 h2)
    ⟨Nat.le_trans hS.1 (by rw [e1]; exact hz), fun q h1 h2 => by rw [e1, hk q (Nat.lt_of_lt_of_le h1 hS.1) (fun z => h2 (hA q z))]; exact hS.2.1 q h1 h2, fun q hq => by
      rcases List.mem_append.mp hq with h | h
      · exact hS.2.2 q h
      · exact hA _ (hL q h)⟩ T' rfl X'
  exact ⟨t2, stp t2 a1, b1⟩
theorem gw_blind {z : G6} {av : List Value} {sz : Nat} : FrameBlind (va_Pc av (gw_B z ws sz)) := by
  intro a U g mk q
  obtain ⟨q0, q1, qP, qK, qD, qN, qZ⟩ := q
  exact ⟨q0, q1, qP, va_K.moved (u := U) (U := U.calling g mk a) (Vm.Alike.refl U.vm) qK, qD, aw_N.same (s := U) (U := U.calling g mk a) rfl qN, qZ.go (U := U.calling g mk a) (Vm.Alike.refl U.vm) (fun _ _ _ _ q => vk_R.same (u := U) (U := U.calling g mk a) rfl q) (Nat.le_refl _) (fun _ _ _ => rfl) (fun _ h => h)⟩
def MFi (mi : MI) : Prop := Cond.code mi.1 mi.2.1 mi.2.2.1 mi.2.2.2 ∈ aw_tb ∧ Cond.initialized mi.1.cls ∈ aw_tb ∧ (mi.1.cls ≠ "java/lang/invoke/MethodHandle" ∧ mi.1.cls ≠ "java/lang/invoke/VarHandle" ∧ (parseMethodDescriptor mi.1.desc).map (fun d => d.parameters.length) = some 0) ∧ mi.2.2.1 ≤ 17 ∧ mi.1.name = "<init>" ∧ Cond.instanceMethod mi.1 ∈ aw_tb ∧ mi.2.2.2 = none
/-- a constructor is called on the cell that was made last (nest: of a nest mate, by a private one) -/
theorem gw_ctor (K : GOK x k) {mi' : MI} {d' mc ms index q : Nat} {e0 : va_E} {S : va_W → Prop} (C : NCT x.1 d' mc ms mi' q e0 S) (hdd : d' < x.2.1.1) (mf : MFi mi') (ml : ML x.2.2.2.2 index mi' ∨ MLN x.2.2.2.2 index mi') (hd : decode x.2.2.1 pc = .ok (.invokespecial index, 3)) (hst : (st.map fun v => v.category).sum ≤ 8) (hc : kc + mc ≤ x.2.1.2.1) (hs : kn + ms ≤ x.2.1.2.2)
    (n : ∀ w1, S w1 → GW x Q k (ws ++ w1) (kc + mc) (kn + ms) (pc + 3) L st) : GW x Q k (ws ++ [(q, e0)]) kc kn pc L (.ref q :: st) := by
  obtain ⟨p, e, s, m, args, below, meth, c, A⟩ := k
  obtain ⟨k1, k2, k3, k4, k5, k6, k7, k8, k9, k10⟩ := K
  obtain ⟨f1, f2, f3, f4, f5, f6, f7⟩ := mf
  intro H lo la a1 a2 a3 a4
  have hAB : ∀ a, va_A [(q, e0)] H.size a → A a := by
    intro a ha
    rcases ha with ⟨i, e, hi⟩ | ha
    · exact (gw_D_r a3).2 i _ hi
    · exact k8 a (Nat.le_trans a4.1 ha)
  have hpre : PreS s H (va_Pc [.ref q] (gw_B x.1 [(q, e0)] H.size)) [.ref q] := ⟨gw_blind, fun U hU hW => ⟨rfl, by rw [hU], by rw [hU]; exact gw_P_r a2, va_K.moved hW.alike k7, (gw_D_r a3).weaken (fun _ _ _ _ => trivial), k9.warm hW, by rw [hU]; exact k10.go hW.alike (fun _ _ _ _ q => vk_R.warm hW q) a4.1 (fun a h1 h2 => a4.2.1 a h1 h2) hAB⟩⟩
  have hG : GoodIn aw_tb (aw_ws mi') := by
    intro w hw
    rcases List.mem_cons.mp hw with rfl | hw
    · exact ⟨f1, aw_good f1⟩
    · exact ⟨hw, aw_good hw⟩
  have hR : (aw_rn d' mc ms).frames + 1 ≤ (aw_rn x.2.1.1 x.2.1.2.1 x.2.1.2.2).frames ∧ 8 + (mi'.2.2.1 + 11) + (aw_rn d' mc ms).locals ≤ (aw_rn x.2.1.1 x.2.1.2.1 x.2.1.2.2).locals := ⟨by show d' + 1 ≤ x.2.1.1; omega, by show 8 + (mi'.2.2.1 + 11) + 36 * d' ≤ 36 * x.2.1.1; omega⟩
  have run : va_Run p x.1.1 e (aw_rn x.2.1.1 x.2.1.2.1 x.2.1.2.2) s m args below meth c H lo kc kn mc ms (F0 m pc la (.ref q :: st)) st (gw_Q x.1 (va_A [(q, e0)] H.size) S #[.ref q]) (va_A [(q, e0)] H.size) := by
    rcases ml with ml | ml
    · exact va_runI (As := []) (rest := st) (Ts := aw_tb) ⟨k1, k2, k3, k4, k5⟩ (C H.size) (cwI 0 k5 hG (by rw [aw_ws, f7]) rfl rfl (k5 _ f2) (k5 _ ml) (k5 _ f6) f5 f3 hR) hpre rfl rfl a1.1 rfl (lv_room hst) hd ⟨hc, hs⟩
    · exact va_runIN (As := []) (rest := st) (Ts := aw_tb) ⟨k1, k2, k3, k4, k5⟩ (C H.size) ⟨va_cnB 0 k5 hG (by rw [aw_ws, f7]) rfl rfl (k9.1 _ ml rfl) (k5 _ f2) f3 hR, f5, k5 _ f6⟩ hpre rfl rfl a1.1 rfl (lv_room hst) hd ⟨hc, hs⟩
  refine gw_afterC (A := A) run a4 hAB (fun w1 H1 lo1 hs1 hP1 hD1 hk1 hS1 => ?_)
  obtain ⟨b2, b3⟩ := gw_joinR a2 a3 hk1 hAB hP1 hD1
  exact n w1 hs1 H1 lo1 la a1 b2 b3 hS1
theorem gw_perm (is : List Nat) {ws' : va_W} (h1 : is.filterMap (fun i => ws[i]?) = ws') (h2 : va_nd is = true) (h3 : is.map (fun i => ws[i]?) = ws'.map some) (n : GW x Q k ws' kc kn pc L st) : GW x Q k ws kc kn pc L st := by
  obtain ⟨p, e, s, m, args, below, meth, c, A⟩ := k
  exact fun H lo la a1 a2 a3 a4 => n H lo la a1 (a2.sub is h1) (a3.sub is h2 h3) a4
theorem gw_eq {ws' : va_W} (h : ws = ws') (n : GW x Q k ws' kc kn pc L st) : GW x Q k ws kc kn pc L st := h ▸ n
/-! calls of methods with a contract, from a world that holds more: the callee's cells stand behind (R) or ahead of (L) the rest -/
abbrev gw_wt (z : G6) (ad : Nat → Nat) (lay : List SP) : WT := (z.1, (z.2.1, ad, z.2.2.1, z.2.2.2.1, z.2.2.2.2.1), lay, z.2.2.2.2.2)
theorem gw_afterM {w : WT} {p : Program} {e : Env} {s : State} {m : MethodId} {args : Array Value} {below : List Frame} {meth : Method} {c : Code} {A A1 : Nat → Prop} {H : Heap} {lo : List Loc} {la : Array Slot} {stk : List Value} {P' : Option Value → HS → Prop} {a : Array Value} {R : Room}
    (hr : va_Run p w.1 e R s m args below meth c H lo kc kn 0 0 (F0 m pc la stk) st (aw_Q w A1 P' a) A1) (hS : va_S A s.heap H lo) (hA : ∀ q, A1 q → A q)
    (kk : ∀ (o : Option Value) (h' : HS) (H1 : Heap) (lo1 : List Loc), P' o h' → va_P w.2.1.1 vwCl (aw_w w h') H1 → (∀ q : Nat, q < H.size → ¬ A1 q → H1[q]? = H[q]?) → va_S A s.heap H1 lo1 → W p w.1 e R s m args below meth c H1 lo1 kc kn Q (F0 m (pc + 3) la (o.toList ++ st))) : W p w.1 e R s m args below meth c H lo kc kn Q (F0 m pc la stk) := by
  intro T hT X
  obtain ⟨v, st₀, t, T', Lc, h0, X', hL, e1, e2, ⟨⟨o, h', hv, hp, hb⟩, hz, hk⟩, stp⟩ := hr T hT X
  cases hv
  rw [h0] at hz hk
  obtain ⟨t2, a1, b1⟩ := kk v h' T'.heap (lo ++ Lc) hp (by rw [e1]; exact hb) (fun q h1 h2 => by rw [e1]; exact hk q h1 h2)
    ⟨Nat.le_trans hS.1 (by rw [e1]; exact hz), fun q h1 h2 => by rw [e1, hk q (Nat.lt_of_lt_of_le h1 hS.1) (fun z => h2 (hA q z))]; exact hS.2.1 q h1 h2, fun q hq => by
      rcases List.mem_append.mp hq with h | h
      · exact hS.2.2 q h
      · exact hA _ (hL q h)⟩ T' rfl X'
  exact ⟨t2, stp t2 a1, b1⟩
theorem gw_runM (K : GOK x k) {ad : Nat → Nat} {lay : List SP} {h : HS} {mi' : MI} {d' index na i ci n0 : Nat} {fs : List Nat} {As : List Value} {P' : Option Value → HS → Prop} (C : CT (gw_wt x.1 ad lay) d' mi' (.ref (ad i) :: As) h P') (hdd : d' < x.2.1.1) (mf : MFv mi' na) (ml : ML x.2.2.2.2 index mi') (hd : decode x.2.2.1 pc = .ok (.invokevirtual index, 3)) (hi : lay[i]? = some (ci + 3, n0, fs)) (hc : CLS ci mi'.1.cls) (hna : As.length = na) (hst : (st.map fun v => v.category).sum ≤ 8) (hkc : kc ≤ x.2.1.2.1) (hkn : kn ≤ x.2.1.2.2) {H : Heap} {lo : List Loc} {la : Array Slot} (a1 : aw_lh la x.2.2.2.1 L) (hP : va_P x.1.2.1 vwCl (aw_w (gw_wt x.1 ad lay) h) H) (hD : va_D k.2.2.2.2.2.2.2.2 (aw_w (gw_wt x.1 ad lay) h)) (hS : va_S k.2.2.2.2.2.2.2.2 k.2.2.1.heap H lo) :
    va_Run k.1 x.1.1 k.2.1 (aw_rn x.2.1.1 x.2.1.2.1 x.2.1.2.2) k.2.2.1 k.2.2.2.1 k.2.2.2.2.1 k.2.2.2.2.2.1 k.2.2.2.2.2.2.1 k.2.2.2.2.2.2.2.1 H lo kc kn 0 0 (F0 k.2.2.2.1 pc la (As.reverse ++ .ref (ad i) :: st)) st (aw_Q (gw_wt x.1 ad lay) (va_A (aw_w (gw_wt x.1 ad lay) h) H.size) P' (Value.ref (ad i) :: As).toArray) (va_A (aw_w (gw_wt x.1 ad lay) h) H.size) := by
  obtain ⟨p, e, s, m, args, below, meth, c, A⟩ := k
  obtain ⟨k1, k2, k3, k4, k5, k6, k7, k8, k9, k10⟩ := K
  obtain ⟨⟨f1, f2, f3, f4⟩, f5, f6⟩ := mf
  obtain ⟨q, c1, c2⟩ := hc
  have hG : GoodIn aw_tb (aw_ws mi') := by
    intro w hw
    rcases List.mem_cons.mp hw with rfl | hw
    · exact ⟨f1, aw_good f1⟩
    · exact ⟨hw, aw_good hw⟩
  have cb : CallB (aw_rn x.2.1.1 x.2.1.2.1 x.2.1.2.2) s args x.2.2.2.2 index mi'.1 mi'.2.1 mi'.2.2.1 mi'.2.2.2 (aw_ws mi') (aw_rm d') 0 0 na := callB_of na k5 hG rfl rfl rfl (k5 _ f2) (k5 _ ml) f3 ⟨by show d' + 1 ≤ x.2.1.1; omega, by show 8 + (mi'.2.2.1 + 11) + 36 * d' ≤ 36 * x.2.1.1; omega⟩
  exact va_runV (C := mi'.1.cls) (b := ad i) (As := As) (rest := st) (Ts := aw_tb) ⟨k1, k2, k3, k4, k5⟩ (C H.size) ⟨cb, k5 _ f5, k5 _ f6⟩ ⟨aw_blind, c2 ▸ va_recv k7 hP c1 (aw_cz_at hi), aw_pre k7 k8 k9 k10 hP hD hS⟩ rfl hna a1.1 rfl (lv_room hst) hd ⟨hkc, hkn⟩
theorem gw_callR (K : GOK x k) {ad : Nat → Nat} {lay : List SP} {h : HS} {wl : va_W} {mi' : MI} {d' index na i ci n0 : Nat} {fs : List Nat} {As stk : List Value} {P' : Option Value → HS → Prop} (C : CT (gw_wt x.1 ad lay) d' mi' (.ref (ad i) :: As) h P') (hstk : stk = As.reverse ++ .ref (ad i) :: st) (hdd : d' < x.2.1.1) (mf : MFv mi' na) (ml : ML x.2.2.2.2 index mi') (hd : decode x.2.2.1 pc = .ok (.invokevirtual index, 3)) (hi : lay[i]? = some (ci + 3, n0, fs)) (hc : CLS ci mi'.1.cls) (hna : As.length = na) (hst : (st.map fun v => v.category).sum ≤ 8) (hkc : kc ≤ x.2.1.2.1) (hkn : kn ≤ x.2.1.2.2)
    (n : ∀ o h', P' o h' → GW x Q k (wl ++ aw_w (gw_wt x.1 ad lay) h') kc kn (pc + 3) L (o.toList ++ st)) : GW x Q k (wl ++ aw_w (gw_wt x.1 ad lay) h) kc kn pc L stk := by
  subst hstk
  obtain ⟨p, e, s, m, args, below, meth, c, A⟩ := k
  intro H lo la a1 a2 a3 a4
  have hAB := aw_AB (w := gw_wt x.1 ad lay) (h := h) K.2.2.2.2.2.2.2.1 (gw_D_r a3) a4
  refine gw_afterM (w := gw_wt x.1 ad lay) (A := A) (gw_runM K C hdd mf ml hd hi hc hna hst hkc hkn a1 (gw_P_r a2) (gw_D_r a3) a4) a4 hAB (fun o h' H1 lo1 hp hP1 hk1 hS1 => ?_)
  obtain ⟨b2, b3⟩ := gw_joinR a2 a3 hk1 hAB hP1 (aw_D_eq ((gw_D_r a3).self (sz := H.size)))
  exact n o h' hp H1 lo1 la a1 b2 b3 hS1
theorem gw_callL (K : GOK x k) {ad : Nat → Nat} {lay : List SP} {h : HS} {wr : va_W} {mi' : MI} {d' index na i ci n0 : Nat} {fs : List Nat} {As stk : List Value} {P' : Option Value → HS → Prop} (C : CT (gw_wt x.1 ad lay) d' mi' (.ref (ad i) :: As) h P') (hstk : stk = As.reverse ++ .ref (ad i) :: st) (hdd : d' < x.2.1.1) (mf : MFv mi' na) (ml : ML x.2.2.2.2 index mi') (hd : decode x.2.2.1 pc = .ok (.invokevirtual index, 3)) (hi : lay[i]? = some (ci + 3, n0, fs)) (hc : CLS ci mi'.1.cls) (hna : As.length = na) (hst : (st.map fun v => v.category).sum ≤ 8) (hkc : kc ≤ x.2.1.2.1) (hkn : kn ≤ x.2.1.2.2)
    (n : ∀ o h', P' o h' → GW x Q k (aw_w (gw_wt x.1 ad lay) h' ++ wr) kc kn (pc + 3) L (o.toList ++ st)) : GW x Q k (aw_w (gw_wt x.1 ad lay) h ++ wr) kc kn pc L stk := by
  subst hstk
  obtain ⟨p, e, s, m, args, below, meth, c, A⟩ := k
  intro H lo la a1 a2 a3 a4
  have hAB := aw_AB (w := gw_wt x.1 ad lay) (h := h) K.2.2.2.2.2.2.2.1 (gw_D_l a3) a4
  refine gw_afterM (w := gw_wt x.1 ad lay) (A := A) (gw_runM K C hdd mf ml hd hi hc hna hst hkc hkn a1 (gw_P_l a2) (gw_D_l a3) a4) a4 hAB (fun o h' H1 lo1 hp hP1 hk1 hS1 => ?_)
  obtain ⟨b2, b3⟩ := gw_joinL a2 a3 hk1 hAB hP1 (aw_D_eq ((gw_D_l a3).self (sz := H.size)))
  exact n o h' hp H1 lo1 la a1 b2 b3 hS1
end GWR
