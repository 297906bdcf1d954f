section AWL
variable {w : WT} {P : Option Value → HS → Prop} {d : Nat} {mi : MI} {k : KT} {pc : Nat} {st : List Value} {h : HS}
theorem aw_il0 (K : AOK w mi k) {r : List (Option Value)} {x : Int32} (hd : decode mi.2.1 pc = .ok (.iload_n 0, 1)) (n : AW w P d mi k (pc + 1) (some (.int x) :: r) (.int x :: st) h) : AW w P d mi k pc (some (.int x) :: r) st h := aw_iload_n K hd rfl rfl n
theorem aw_is0 (K : AOK w mi k) {b : Option Value} {r : List (Option Value)} {x : Int32} (hd : decode mi.2.1 pc = .ok (.istore_n 0, 1)) (hb : 0 < mi.2.2.1) (n : AW w P d mi k (pc + 1) (some (.int x) :: r) st h) : AW w P d mi k pc (b :: r) (.int x :: st) h := aw_istore_n K hd rfl hb (fun j o hj _ => by omega) n
theorem aw_ll0 (K : AOK w mi k) {r : List (Option Value)} {x : Int64} (hd : decode mi.2.1 pc = .ok (.lload_n 0, 1)) (n : AW w P d mi k (pc + 1) (some (.long x) :: r) (.long x :: st) h) : AW w P d mi k pc (some (.long x) :: r) st h := aw_lload_n K hd rfl rfl n
theorem aw_ls0 (K : AOK w mi k) {b b2 : Option Value} {r : List (Option Value)} {x : Int64} (hd : decode mi.2.1 pc = .ok (.lstore_n 0, 1)) (hb : 1 < mi.2.2.1) (n : AW w P d mi k (pc + 1) (some (.long x) :: none :: r) st h) : AW w P d mi k pc (b :: b2 :: r) (.long x :: st) h := aw_lstore_n K hd rfl hb (fun j o hj _ => by omega) n
theorem aw_al0 (K : AOK w mi k) {r : List (Option Value)} {x : Nat} (hd : decode mi.2.1 pc = .ok (.aload_n 0, 1)) (n : AW w P d mi k (pc + 1) (some (.ref x) :: r) (.ref x :: st) h) : AW w P d mi k pc (some (.ref x) :: r) st h := aw_aload_n K hd rfl rfl n
theorem aw_as0 (K : AOK w mi k) {b : Option Value} {r : List (Option Value)} {x : Nat} (hd : decode mi.2.1 pc = .ok (.astore_n 0, 1)) (hb : 0 < mi.2.2.1) (n : AW w P d mi k (pc + 1) (some (.ref x) :: r) st h) : AW w P d mi k pc (b :: r) (.ref x :: st) h := aw_astore_n K hd rfl hb (fun j o hj _ => by omega) n
theorem aw_ii0 (K : AOK w mi k) {r : List (Option Value)} {x v : Int32} {n0 : Int} (hd : decode mi.2.1 pc = .ok (.iinc 0 n0, 3)) (hv : x + Int32.ofInt n0 = v) (hb : 0 < mi.2.2.1) (n : AW w P d mi k (pc + 3) (some (.int v) :: r) st h) : AW w P d mi k pc (some (.int x) :: r) st h := aw_iinc K hd rfl hv hb (fun j o hj _ => by omega) n
theorem aw_il1 (K : AOK w mi k) {a0 : Option Value} {r : List (Option Value)} {x : Int32} (hd : decode mi.2.1 pc = .ok (.iload_n 1, 1)) (n : AW w P d mi k (pc + 1) (a0 :: some (.int x) :: r) (.int x :: st) h) : AW w P d mi k pc (a0 :: some (.int x) :: r) st h := aw_iload_n K hd rfl rfl n
theorem aw_is1 (K : AOK w mi k) {a0 : Option Value} {b : Option Value} {r : List (Option Value)} {x : Int32} (hd : decode mi.2.1 pc = .ok (.istore_n 1, 1)) (hb : 1 < mi.2.2.1) (hp : aw_c1 a0 = true) (n : AW w P d mi k (pc + 1) (a0 :: some (.int x) :: r) st h) : AW w P d mi k pc (a0 :: b :: r) (.int x :: st) h := aw_istore_n K hd rfl hb (fun j o hj ho => by
  obtain rfl : j = 0 := by omega
  simp at ho
  subst ho
  exact hp) n
theorem aw_ll1 (K : AOK w mi k) {a0 : Option Value} {r : List (Option Value)} {x : Int64} (hd : decode mi.2.1 pc = .ok (.lload_n 1, 1)) (n : AW w P d mi k (pc + 1) (a0 :: some (.long x) :: r) (.long x :: st) h) : AW w P d mi k pc (a0 :: some (.long x) :: r) st h := aw_lload_n K hd rfl rfl n
theorem aw_ls1 (K : AOK w mi k) {a0 : Option Value} {b b2 : Option Value} {r : List (Option Value)} {x : Int64} (hd : decode mi.2.1 pc = .ok (.lstore_n 1, 1)) (hb : 2 < mi.2.2.1) (hp : aw_c1 a0 = true) (n : AW w P d mi k (pc + 1) (a0 :: some (.long x) :: none :: r) st h) : AW w P d mi k pc (a0 :: b :: b2 :: r) (.long x :: st) h := aw_lstore_n K hd rfl hb (fun j o hj ho => by
  obtain rfl : j = 0 := by omega
  simp at ho
  subst ho
  exact hp) n
theorem aw_al1 (K : AOK w mi k) {a0 : Option Value} {r : List (Option Value)} {x : Nat} (hd : decode mi.2.1 pc = .ok (.aload_n 1, 1)) (n : AW w P d mi k (pc + 1) (a0 :: some (.ref x) :: r) (.ref x :: st) h) : AW w P d mi k pc (a0 :: some (.ref x) :: r) st h := aw_aload_n K hd rfl rfl n
theorem aw_as1 (K : AOK w mi k) {a0 : Option Value} {b : Option Value} {r : List (Option Value)} {x : Nat} (hd : decode mi.2.1 pc = .ok (.astore_n 1, 1)) (hb : 1 < mi.2.2.1) (hp : aw_c1 a0 = true) (n : AW w P d mi k (pc + 1) (a0 :: some (.ref x) :: r) st h) : AW w P d mi k pc (a0 :: b :: r) (.ref x :: st) h := aw_astore_n K hd rfl hb (fun j o hj ho => by
  obtain rfl : j = 0 := by omega
  simp at ho
  subst ho
  exact hp) n
theorem aw_ii1 (K : AOK w mi k) {a0 : Option Value} {r : List (Option Value)} {x v : Int32} {n0 : Int} (hd : decode mi.2.1 pc = .ok (.iinc 1 n0, 3)) (hv : x + Int32.ofInt n0 = v) (hb : 1 < mi.2.2.1) (hp : aw_c1 a0 = true) (n : AW w P d mi k (pc + 3) (a0 :: some (.int v) :: r) st h) : AW w P d mi k pc (a0 :: some (.int x) :: r) st h := aw_iinc K hd rfl hv hb (fun j o hj ho => by
  obtain rfl : j = 0 := by omega
  simp at ho
  subst ho
  exact hp) n
theorem aw_il2 (K : AOK w mi k) {a0 a1 : Option Value} {r : List (Option Value)} {x : Int32} (hd : decode mi.2.1 pc = .ok (.iload_n 2, 1)) (n : AW w P d mi k (pc + 1) (a0 :: a1 :: some (.int x) :: r) (.int x :: st) h) : AW w P d mi k pc (a0 :: a1 :: some (.int x) :: r) st h := aw_iload_n K hd rfl rfl n
theorem aw_is2 (K : AOK w mi k) {a0 a1 : Option Value} {b : Option Value} {r : List (Option Value)} {x : Int32} (hd : decode mi.2.1 pc = .ok (.istore_n 2, 1)) (hb : 2 < mi.2.2.1) (hp : aw_c1 a1 = true) (n : AW w P d mi k (pc + 1) (a0 :: a1 :: some (.int x) :: r) st h) : AW w P d mi k pc (a0 :: a1 :: b :: r) (.int x :: st) h := aw_istore_n K hd rfl hb (fun j o hj ho => by
  obtain rfl : j = 1 := by omega
  simp at ho
  subst ho
  exact hp) n
theorem aw_ll2 (K : AOK w mi k) {a0 a1 : Option Value} {r : List (Option Value)} {x : Int64} (hd : decode mi.2.1 pc = .ok (.lload_n 2, 1)) (n : AW w P d mi k (pc + 1) (a0 :: a1 :: some (.long x) :: r) (.long x :: st) h) : AW w P d mi k pc (a0 :: a1 :: some (.long x) :: r) st h := aw_lload_n K hd rfl rfl n
theorem aw_ls2 (K : AOK w mi k) {a0 a1 : Option Value} {b b2 : Option Value} {r : List (Option Value)} {x : Int64} (hd : decode mi.2.1 pc = .ok (.lstore_n 2, 1)) (hb : 3 < mi.2.2.1) (hp : aw_c1 a1 = true) (n : AW w P d mi k (pc + 1) (a0 :: a1 :: some (.long x) :: none :: r) st h) : AW w P d mi k pc (a0 :: a1 :: b :: b2 :: r) (.long x :: st) h := aw_lstore_n K hd rfl hb (fun j o hj ho => by
  obtain rfl : j = 1 := by omega
  simp at ho
  subst ho
  exact hp) n
theorem aw_al2 (K : AOK w mi k) {a0 a1 : Option Value} {r : List (Option Value)} {x : Nat} (hd : decode mi.2.1 pc = .ok (.aload_n 2, 1)) (n : AW w P d mi k (pc + 1) (a0 :: a1 :: some (.ref x) :: r) (.ref x :: st) h) : AW w P d mi k pc (a0 :: a1 :: some (.ref x) :: r) st h := aw_aload_n K hd rfl rfl n
theorem aw_as2 (K : AOK w mi k) {a0 a1 : Option Value} {b : Option Value} {r : List (Option Value)} {x : Nat} (hd : decode mi.2.1 pc = .ok (.astore_n 2, 1)) (hb : 2 < mi.2.2.1) (hp : aw_c1 a1 = true) (n : AW w P d mi k (pc + 1) (a0 :: a1 :: some (.ref x) :: r) st h) : AW w P d mi k pc (a0 :: a1 :: b :: r) (.ref x :: st) h := aw_astore_n K hd rfl hb (fun j o hj ho => by
  obtain rfl : j = 1 := by omega
  simp at ho
  subst ho
  exact hp) n
theorem aw_ii2 (K : AOK w mi k) {a0 a1 : Option Value} {r : List (Option Value)} {x v : Int32} {n0 : Int} (hd : decode mi.2.1 pc = .ok (.iinc 2 n0, 3)) (hv : x + Int32.ofInt n0 = v) (hb : 2 < mi.2.2.1) (hp : aw_c1 a1 = true) (n : AW w P d mi k (pc + 3) (a0 :: a1 :: some (.int v) :: r) st h) : AW w P d mi k pc (a0 :: a1 :: some (.int x) :: r) st h := aw_iinc K hd rfl hv hb (fun j o hj ho => by
  obtain rfl : j = 1 := by omega
  simp at ho
  subst ho
  exact hp) n
theorem aw_il3 (K : AOK w mi k) {a0 a1 a2 : Option Value} {r : List (Option Value)} {x : Int32} (hd : decode mi.2.1 pc = .ok (.iload_n 3, 1)) (n : AW w P d mi k (pc + 1) (a0 :: a1 :: a2 :: some (.int x) :: r) (.int x :: st) h) : AW w P d mi k pc (a0 :: a1 :: a2 :: some (.int x) :: r) st h := aw_iload_n K hd rfl rfl n
theorem aw_is3 (K : AOK w mi k) {a0 a1 a2 : Option Value} {b : Option Value} {r : List (Option Value)} {x : Int32} (hd : decode mi.2.1 pc = .ok (.istore_n 3, 1)) (hb : 3 < mi.2.2.1) (hp : aw_c1 a2 = true) (n : AW w P d mi k (pc + 1) (a0 :: a1 :: a2 :: some (.int x) :: r) st h) : AW w P d mi k pc (a0 :: a1 :: a2 :: b :: r) (.int x :: st) h := aw_istore_n K hd rfl hb (fun j o hj ho => by
  obtain rfl : j = 2 := by omega
  simp at ho
  subst ho
  exact hp) n
theorem aw_ll3 (K : AOK w mi k) {a0 a1 a2 : Option Value} {r : List (Option Value)} {x : Int64} (hd : decode mi.2.1 pc = .ok (.lload_n 3, 1)) (n : AW w P d mi k (pc + 1) (a0 :: a1 :: a2 :: some (.long x) :: r) (.long x :: st) h) : AW w P d mi k pc (a0 :: a1 :: a2 :: some (.long x) :: r) st h := aw_lload_n K hd rfl rfl n
theorem aw_ls3 (K : AOK w mi k) {a0 a1 a2 : Option Value} {b b2 : Option Value} {r : List (Option Value)} {x : Int64} (hd : decode mi.2.1 pc = .ok (.lstore_n 3, 1)) (hb : 4 < mi.2.2.1) (hp : aw_c1 a2 = true) (n : AW w P d mi k (pc + 1) (a0 :: a1 :: a2 :: some (.long x) :: none :: r) st h) : AW w P d mi k pc (a0 :: a1 :: a2 :: b :: b2 :: r) (.long x :: st) h := aw_lstore_n K hd rfl hb (fun j o hj ho => by
  obtain rfl : j = 2 := by omega
  simp at ho
  subst ho
  exact hp) n
theorem aw_al3 (K : AOK w mi k) {a0 a1 a2 : Option Value} {r : List (Option Value)} {x : Nat} (hd : decode mi.2.1 pc = .ok (.aload_n 3, 1)) (n : AW w P d mi k (pc + 1) (a0 :: a1 :: a2 :: some (.ref x) :: r) (.ref x :: st) h) : AW w P d mi k pc (a0 :: a1 :: a2 :: some (.ref x) :: r) st h := aw_aload_n K hd rfl rfl n
theorem aw_as3 (K : AOK w mi k) {a0 a1 a2 : Option Value} {b : Option Value} {r : List (Option Value)} {x : Nat} (hd : decode mi.2.1 pc = .ok (.astore_n 3, 1)) (hb : 3 < mi.2.2.1) (hp : aw_c1 a2 = true) (n : AW w P d mi k (pc + 1) (a0 :: a1 :: a2 :: some (.ref x) :: r) st h) : AW w P d mi k pc (a0 :: a1 :: a2 :: b :: r) (.ref x :: st) h := aw_astore_n K hd rfl hb (fun j o hj ho => by
  obtain rfl : j = 2 := by omega
  simp at ho
  subst ho
  exact hp) n
theorem aw_ii3 (K : AOK w mi k) {a0 a1 a2 : Option Value} {r : List (Option Value)} {x v : Int32} {n0 : Int} (hd : decode mi.2.1 pc = .ok (.iinc 3 n0, 3)) (hv : x + Int32.ofInt n0 = v) (hb : 3 < mi.2.2.1) (hp : aw_c1 a2 = true) (n : AW w P d mi k (pc + 3) (a0 :: a1 :: a2 :: some (.int v) :: r) st h) : AW w P d mi k pc (a0 :: a1 :: a2 :: some (.int x) :: r) st h := aw_iinc K hd rfl hv hb (fun j o hj ho => by
  obtain rfl : j = 2 := by omega
  simp at ho
  subst ho
  exact hp) n
theorem aw_il4 (K : AOK w mi k) {a0 a1 a2 a3 : Option Value} {r : List (Option Value)} {x : Int32} (hd : decode mi.2.1 pc = .ok (.iload 4, 2)) (n : AW w P d mi k (pc + 2) (a0 :: a1 :: a2 :: a3 :: some (.int x) :: r) (.int x :: st) h) : AW w P d mi k pc (a0 :: a1 :: a2 :: a3 :: some (.int x) :: r) st h := aw_iload K hd rfl n
theorem aw_is4 (K : AOK w mi k) {a0 a1 a2 a3 : Option Value} {b : Option Value} {r : List (Option Value)} {x : Int32} (hd : decode mi.2.1 pc = .ok (.istore 4, 2)) (hb : 4 < mi.2.2.1) (hp : aw_c1 a3 = true) (n : AW w P d mi k (pc + 2) (a0 :: a1 :: a2 :: a3 :: some (.int x) :: r) st h) : AW w P d mi k pc (a0 :: a1 :: a2 :: a3 :: b :: r) (.int x :: st) h := aw_istore K hd hb (fun j o hj ho => by
  obtain rfl : j = 3 := by omega
  simp at ho
  subst ho
  exact hp) n
theorem aw_ll4 (K : AOK w mi k) {a0 a1 a2 a3 : Option Value} {r : List (Option Value)} {x : Int64} (hd : decode mi.2.1 pc = .ok (.lload 4, 2)) (n : AW w P d mi k (pc + 2) (a0 :: a1 :: a2 :: a3 :: some (.long x) :: r) (.long x :: st) h) : AW w P d mi k pc (a0 :: a1 :: a2 :: a3 :: some (.long x) :: r) st h := aw_lload K hd rfl n
theorem aw_ls4 (K : AOK w mi k) {a0 a1 a2 a3 : Option Value} {b b2 : Option Value} {r : List (Option Value)} {x : Int64} (hd : decode mi.2.1 pc = .ok (.lstore 4, 2)) (hb : 5 < mi.2.2.1) (hp : aw_c1 a3 = true) (n : AW w P d mi k (pc + 2) (a0 :: a1 :: a2 :: a3 :: some (.long x) :: none :: r) st h) : AW w P d mi k pc (a0 :: a1 :: a2 :: a3 :: b :: b2 :: r) (.long x :: st) h := aw_lstore K hd hb (fun j o hj ho => by
  obtain rfl : j = 3 := by omega
  simp at ho
  subst ho
  exact hp) n
theorem aw_al4 (K : AOK w mi k) {a0 a1 a2 a3 : Option Value} {r : List (Option Value)} {x : Nat} (hd : decode mi.2.1 pc = .ok (.aload 4, 2)) (n : AW w P d mi k (pc + 2) (a0 :: a1 :: a2 :: a3 :: some (.ref x) :: r) (.ref x :: st) h) : AW w P d mi k pc (a0 :: a1 :: a2 :: a3 :: some (.ref x) :: r) st h := aw_aload K hd rfl n
theorem aw_as4 (K : AOK w mi k) {a0 a1 a2 a3 : Option Value} {b : Option Value} {r : List (Option Value)} {x : Nat} (hd : decode mi.2.1 pc = .ok (.astore 4, 2)) (hb : 4 < mi.2.2.1) (hp : aw_c1 a3 = true) (n : AW w P d mi k (pc + 2) (a0 :: a1 :: a2 :: a3 :: some (.ref x) :: r) st h) : AW w P d mi k pc (a0 :: a1 :: a2 :: a3 :: b :: r) (.ref x :: st) h := aw_astore K hd hb (fun j o hj ho => by
  obtain rfl : j = 3 := by omega
  simp at ho
  subst ho
  exact hp) n
theorem aw_ii4 (K : AOK w mi k) {a0 a1 a2 a3 : Option Value} {r : List (Option Value)} {x v : Int32} {n0 : Int} (hd : decode mi.2.1 pc = .ok (.iinc 4 n0, 3)) (hv : x + Int32.ofInt n0 = v) (hb : 4 < mi.2.2.1) (hp : aw_c1 a3 = true) (n : AW w P d mi k (pc + 3) (a0 :: a1 :: a2 :: a3 :: some (.int v) :: r) st h) : AW w P d mi k pc (a0 :: a1 :: a2 :: a3 :: some (.int x) :: r) st h := aw_iinc K hd rfl hv hb (fun j o hj ho => by
  obtain rfl : j = 3 := by omega
  simp at ho
  subst ho
  exact hp) n
theorem aw_il5 (K : AOK w mi k) {a0 a1 a2 a3 a4 : Option Value} {r : List (Option Value)} {x : Int32} (hd : decode mi.2.1 pc = .ok (.iload 5, 2)) (n : AW w P d mi k (pc + 2) (a0 :: a1 :: a2 :: a3 :: a4 :: some (.int x) :: r) (.int x :: st) h) : AW w P d mi k pc (a0 :: a1 :: a2 :: a3 :: a4 :: some (.int x) :: r) st h := aw_iload K hd rfl n
theorem aw_is5 (K : AOK w mi k) {a0 a1 a2 a3 a4 : Option Value} {b : Option Value} {r : List (Option Value)} {x : Int32} (hd : decode mi.2.1 pc = .ok (.istore 5, 2)) (hb : 5 < mi.2.2.1) (hp : aw_c1 a4 = true) (n : AW w P d mi k (pc + 2) (a0 :: a1 :: a2 :: a3 :: a4 :: some (.int x) :: r) st h) : AW w P d mi k pc (a0 :: a1 :: a2 :: a3 :: a4 :: b :: r) (.int x :: st) h := aw_istore K hd hb (fun j o hj ho => by
  obtain rfl : j = 4 := by omega
  simp at ho
  subst ho
  exact hp) n
theorem aw_ll5 (K : AOK w mi k) {a0 a1 a2 a3 a4 : Option Value} {r : List (Option Value)} {x : Int64} (hd : decode mi.2.1 pc = .ok (.lload 5, 2)) (n : AW w P d mi k (pc + 2) (a0 :: a1 :: a2 :: a3 :: a4 :: some (.long x) :: r) (.long x :: st) h) : AW w P d mi k pc (a0 :: a1 :: a2 :: a3 :: a4 :: some (.long x) :: r) st h := aw_lload K hd rfl n
theorem aw_ls5 (K : AOK w mi k) {a0 a1 a2 a3 a4 : Option Value} {b b2 : Option Value} {r : List (Option Value)} {x : Int64} (hd : decode mi.2.1 pc = .ok (.lstore 5, 2)) (hb : 6 < mi.2.2.1) (hp : aw_c1 a4 = true) (n : AW w P d mi k (pc + 2) (a0 :: a1 :: a2 :: a3 :: a4 :: some (.long x) :: none :: r) st h) : AW w P d mi k pc (a0 :: a1 :: a2 :: a3 :: a4 :: b :: b2 :: r) (.long x :: st) h := aw_lstore K hd hb (fun j o hj ho => by
  obtain rfl : j = 4 := by omega
  simp at ho
  subst ho
  exact hp) n
theorem aw_al5 (K : AOK w mi k) {a0 a1 a2 a3 a4 : Option Value} {r : List (Option Value)} {x : Nat} (hd : decode mi.2.1 pc = .ok (.aload 5, 2)) (n : AW w P d mi k (pc + 2) (a0 :: a1 :: a2 :: a3 :: a4 :: some (.ref x) :: r) (.ref x :: st) h) : AW w P d mi k pc (a0 :: a1 :: a2 :: a3 :: a4 :: some (.ref x) :: r) st h := aw_aload K hd rfl n
theorem aw_as5 (K : AOK w mi k) {a0 a1 a2 a3 a4 : Option Value} {b : Option Value} {r : List (Option Value)} {x : Nat} (hd : decode mi.2.1 pc = .ok (.astore 5, 2)) (hb : 5 < mi.2.2.1) (hp : aw_c1 a4 = true) (n : AW w P d mi k (pc + 2) (a0 :: a1 :: a2 :: a3 :: a4 :: some (.ref x) :: r) st h) : AW w P d mi k pc (a0 :: a1 :: a2 :: a3 :: a4 :: b :: r) (.ref x :: st) h := aw_astore K hd hb (fun j o hj ho => by
  obtain rfl : j = 4 := by omega
  simp at ho
  subst ho
  exact hp) n
theorem aw_ii5 (K : AOK w mi k) {a0 a1 a2 a3 a4 : Option Value} {r : List (Option Value)} {x v : Int32} {n0 : Int} (hd : decode mi.2.1 pc = .ok (.iinc 5 n0, 3)) (hv : x + Int32.ofInt n0 = v) (hb : 5 < mi.2.2.1) (hp : aw_c1 a4 = true) (n : AW w P d mi k (pc + 3) (a0 :: a1 :: a2 :: a3 :: a4 :: some (.int v) :: r) st h) : AW w P d mi k pc (a0 :: a1 :: a2 :: a3 :: a4 :: some (.int x) :: r) st h := aw_iinc K hd rfl hv hb (fun j o hj ho => by
  obtain rfl : j = 4 := by omega
  simp at ho
  subst ho
  exact hp) n
theorem aw_il6 (K : AOK w mi k) {a0 a1 a2 a3 a4 a5 : Option Value} {r : List (Option Value)} {x : Int32} (hd : decode mi.2.1 pc = .ok (.iload 6, 2)) (n : AW w P d mi k (pc + 2) (a0 :: a1 :: a2 :: a3 :: a4 :: a5 :: some (.int x) :: r) (.int x :: st) h) : AW w P d mi k pc (a0 :: a1 :: a2 :: a3 :: a4 :: a5 :: some (.int x) :: r) st h := aw_iload K hd rfl n
theorem aw_is6 (K : AOK w mi k) {a0 a1 a2 a3 a4 a5 : Option Value} {b : Option Value} {r : List (Option Value)} {x : Int32} (hd : decode mi.2.1 pc = .ok (.istore 6, 2)) (hb : 6 < mi.2.2.1) (hp : aw_c1 a5 = true) (n : AW w P d mi k (pc + 2) (a0 :: a1 :: a2 :: a3 :: a4 :: a5 :: some (.int x) :: r) st h) : AW w P d mi k pc (a0 :: a1 :: a2 :: a3 :: a4 :: a5 :: b :: r) (.int x :: st) h := aw_istore K hd hb (fun j o hj ho => by
  obtain rfl : j = 5 := by omega
  simp at ho
  subst ho
  exact hp) n
theorem aw_ll6 (K : AOK w mi k) {a0 a1 a2 a3 a4 a5 : Option Value} {r : List (Option Value)} {x : Int64} (hd : decode mi.2.1 pc = .ok (.lload 6, 2)) (n : AW w P d mi k (pc + 2) (a0 :: a1 :: a2 :: a3 :: a4 :: a5 :: some (.long x) :: r) (.long x :: st) h) : AW w P d mi k pc (a0 :: a1 :: a2 :: a3 :: a4 :: a5 :: some (.long x) :: r) st h := aw_lload K hd rfl n
theorem aw_ls6 (K : AOK w mi k) {a0 a1 a2 a3 a4 a5 : Option Value} {b b2 : Option Value} {r : List (Option Value)} {x : Int64} (hd : decode mi.2.1 pc = .ok (.lstore 6, 2)) (hb : 7 < mi.2.2.1) (hp : aw_c1 a5 = true) (n : AW w P d mi k (pc + 2) (a0 :: a1 :: a2 :: a3 :: a4 :: a5 :: some (.long x) :: none :: r) st h) : AW w P d mi k pc (a0 :: a1 :: a2 :: a3 :: a4 :: a5 :: b :: b2 :: r) (.long x :: st) h := aw_lstore K hd hb (fun j o hj ho => by
  obtain rfl : j = 5 := by omega
  simp at ho
  subst ho
  exact hp) n
theorem aw_al6 (K : AOK w mi k) {a0 a1 a2 a3 a4 a5 : Option Value} {r : List (Option Value)} {x : Nat} (hd : decode mi.2.1 pc = .ok (.aload 6, 2)) (n : AW w P d mi k (pc + 2) (a0 :: a1 :: a2 :: a3 :: a4 :: a5 :: some (.ref x) :: r) (.ref x :: st) h) : AW w P d mi k pc (a0 :: a1 :: a2 :: a3 :: a4 :: a5 :: some (.ref x) :: r) st h := aw_aload K hd rfl n
theorem aw_as6 (K : AOK w mi k) {a0 a1 a2 a3 a4 a5 : Option Value} {b : Option Value} {r : List (Option Value)} {x : Nat} (hd : decode mi.2.1 pc = .ok (.astore 6, 2)) (hb : 6 < mi.2.2.1) (hp : aw_c1 a5 = true) (n : AW w P d mi k (pc + 2) (a0 :: a1 :: a2 :: a3 :: a4 :: a5 :: some (.ref x) :: r) st h) : AW w P d mi k pc (a0 :: a1 :: a2 :: a3 :: a4 :: a5 :: b :: r) (.ref x :: st) h := aw_astore K hd hb (fun j o hj ho => by
  obtain rfl : j = 5 := by omega
  simp at ho
  subst ho
  exact hp) n
theorem aw_ii6 (K : AOK w mi k) {a0 a1 a2 a3 a4 a5 : Option Value} {r : List (Option Value)} {x v : Int32} {n0 : Int} (hd : decode mi.2.1 pc = .ok (.iinc 6 n0, 3)) (hv : x + Int32.ofInt n0 = v) (hb : 6 < mi.2.2.1) (hp : aw_c1 a5 = true) (n : AW w P d mi k (pc + 3) (a0 :: a1 :: a2 :: a3 :: a4 :: a5 :: some (.int v) :: r) st h) : AW w P d mi k pc (a0 :: a1 :: a2 :: a3 :: a4 :: a5 :: some (.int x) :: r) st h := aw_iinc K hd rfl hv hb (fun j o hj ho => by
  obtain rfl : j = 5 := by omega
  simp at ho
  subst ho
  exact hp) n
theorem aw_il7 (K : AOK w mi k) {a0 a1 a2 a3 a4 a5 a6 : Option Value} {r : List (Option Value)} {x : Int32} (hd : decode mi.2.1 pc = .ok (.iload 7, 2)) (n : AW w P d mi k (pc + 2) (a0 :: a1 :: a2 :: a3 :: a4 :: a5 :: a6 :: some (.int x) :: r) (.int x :: st) h) : AW w P d mi k pc (a0 :: a1 :: a2 :: a3 :: a4 :: a5 :: a6 :: some (.int x) :: r) st h := aw_iload K hd rfl n
theorem aw_is7 (K : AOK w mi k) {a0 a1 a2 a3 a4 a5 a6 : Option Value} {b : Option Value} {r : List (Option Value)} {x : Int32} (hd : decode mi.2.1 pc = .ok (.istore 7, 2)) (hb : 7 < mi.2.2.1) (hp : aw_c1 a6 = true) (n : AW w P d mi k (pc + 2) (a0 :: a1 :: a2 :: a3 :: a4 :: a5 :: a6 :: some (.int x) :: r) st h) : AW w P d mi k pc (a0 :: a1 :: a2 :: a3 :: a4 :: a5 :: a6 :: b :: r) (.int x :: st) h := aw_istore K hd hb (fun j o hj ho => by
  obtain rfl : j = 6 := by omega
  simp at ho
  subst ho
  exact hp) n
theorem aw_ll7 (K : AOK w mi k) {a0 a1 a2 a3 a4 a5 a6 : Option Value} {r : List (Option Value)} {x : Int64} (hd : decode mi.2.1 pc = .ok (.lload 7, 2)) (n : AW w P d mi k (pc + 2) (a0 :: a1 :: a2 :: a3 :: a4 :: a5 :: a6 :: some (.long x) :: r) (.long x :: st) h) : AW w P d mi k pc (a0 :: a1 :: a2 :: a3 :: a4 :: a5 :: a6 :: some (.long x) :: r) st h := aw_lload K hd rfl n
theorem aw_ls7 (K : AOK w mi k) {a0 a1 a2 a3 a4 a5 a6 : Option Value} {b b2 : Option Value} {r : List (Option Value)} {x : Int64} (hd : decode mi.2.1 pc = .ok (.lstore 7, 2)) (hb : 8 < mi.2.2.1) (hp : aw_c1 a6 = true) (n : AW w P d mi k (pc + 2) (a0 :: a1 :: a2 :: a3 :: a4 :: a5 :: a6 :: some (.long x) :: none :: r) st h) : AW w P d mi k pc (a0 :: a1 :: a2 :: a3 :: a4 :: a5 :: a6 :: b :: b2 :: r) (.long x :: st) h := aw_lstore K hd hb (fun j o hj ho => by
  obtain rfl : j = 6 := by omega
  simp at ho
  subst ho
  exact hp) n
theorem aw_al7 (K : AOK w mi k) {a0 a1 a2 a3 a4 a5 a6 : Option Value} {r : List (Option Value)} {x : Nat} (hd : decode mi.2.1 pc = .ok (.aload 7, 2)) (n : AW w P d mi k (pc + 2) (a0 :: a1 :: a2 :: a3 :: a4 :: a5 :: a6 :: some (.ref x) :: r) (.ref x :: st) h) : AW w P d mi k pc (a0 :: a1 :: a2 :: a3 :: a4 :: a5 :: a6 :: some (.ref x) :: r) st h := aw_aload K hd rfl n
theorem aw_as7 (K : AOK w mi k) {a0 a1 a2 a3 a4 a5 a6 : Option Value} {b : Option Value} {r : List (Option Value)} {x : Nat} (hd : decode mi.2.1 pc = .ok (.astore 7, 2)) (hb : 7 < mi.2.2.1) (hp : aw_c1 a6 = true) (n : AW w P d mi k (pc + 2) (a0 :: a1 :: a2 :: a3 :: a4 :: a5 :: a6 :: some (.ref x) :: r) st h) : AW w P d mi k pc (a0 :: a1 :: a2 :: a3 :: a4 :: a5 :: a6 :: b :: r) (.ref x :: st) h := aw_astore K hd hb (fun j o hj ho => by
  obtain rfl : j = 6 := by omega
  simp at ho
  subst ho
  exact hp) n
theorem aw_ii7 (K : AOK w mi k) {a0 a1 a2 a3 a4 a5 a6 : Option Value} {r : List (Option Value)} {x v : Int32} {n0 : Int} (hd : decode mi.2.1 pc = .ok (.iinc 7 n0, 3)) (hv : x + Int32.ofInt n0 = v) (hb : 7 < mi.2.2.1) (hp : aw_c1 a6 = true) (n : AW w P d mi k (pc + 3) (a0 :: a1 :: a2 :: a3 :: a4 :: a5 :: a6 :: some (.int v) :: r) st h) : AW w P d mi k pc (a0 :: a1 :: a2 :: a3 :: a4 :: a5 :: a6 :: some (.int x) :: r) st h := aw_iinc K hd rfl hv hb (fun j o hj ho => by
  obtain rfl : j = 6 := by omega
  simp at ho
  subst ho
  exact hp) n
theorem aw_il8 (K : AOK w mi k) {a0 a1 a2 a3 a4 a5 a6 a7 : Option Value} {r : List (Option Value)} {x : Int32} (hd : decode mi.2.1 pc = .ok (.iload 8, 2)) (n : AW w P d mi k (pc + 2) (a0 :: a1 :: a2 :: a3 :: a4 :: a5 :: a6 :: a7 :: some (.int x) :: r) (.int x :: st) h) : AW w P d mi k pc (a0 :: a1 :: a2 :: a3 :: a4 :: a5 :: a6 :: a7 :: some (.int x) :: r) st h := aw_iload K hd rfl n
theorem aw_is8 (K : AOK w mi k) {a0 a1 a2 a3 a4 a5 a6 a7 : Option Value} {b : Option Value} {r : List (Option Value)} {x : Int32} (hd : decode mi.2.1 pc = .ok (.istore 8, 2)) (hb : 8 < mi.2.2.1) (hp : aw_c1 a7 = true) (n : AW w P d mi k (pc + 2) (a0 :: a1 :: a2 :: a3 :: a4 :: a5 :: a6 :: a7 :: some (.int x) :: r) st h) : AW w P d mi k pc (a0 :: a1 :: a2 :: a3 :: a4 :: a5 :: a6 :: a7 :: b :: r) (.int x :: st) h := aw_istore K hd hb (fun j o hj ho => by
  obtain rfl : j = 7 := by omega
  simp at ho
  subst ho
  exact hp) n
theorem aw_ll8 (K : AOK w mi k) {a0 a1 a2 a3 a4 a5 a6 a7 : Option Value} {r : List (Option Value)} {x : Int64} (hd : decode mi.2.1 pc = .ok (.lload 8, 2)) (n : AW w P d mi k (pc + 2) (a0 :: a1 :: a2 :: a3 :: a4 :: a5 :: a6 :: a7 :: some (.long x) :: r) (.long x :: st) h) : AW w P d mi k pc (a0 :: a1 :: a2 :: a3 :: a4 :: a5 :: a6 :: a7 :: some (.long x) :: r) st h := aw_lload K hd rfl n
theorem aw_ls8 (K : AOK w mi k) {a0 a1 a2 a3 a4 a5 a6 a7 : Option Value} {b b2 : Option Value} {r : List (Option Value)} {x : Int64} (hd : decode mi.2.1 pc = .ok (.lstore 8, 2)) (hb : 9 < mi.2.2.1) (hp : aw_c1 a7 = true) (n : AW w P d mi k (pc + 2) (a0 :: a1 :: a2 :: a3 :: a4 :: a5 :: a6 :: a7 :: some (.long x) :: none :: r) st h) : AW w P d mi k pc (a0 :: a1 :: a2 :: a3 :: a4 :: a5 :: a6 :: a7 :: b :: b2 :: r) (.long x :: st) h := aw_lstore K hd hb (fun j o hj ho => by
  obtain rfl : j = 7 := by omega
  simp at ho
  subst ho
  exact hp) n
theorem aw_al8 (K : AOK w mi k) {a0 a1 a2 a3 a4 a5 a6 a7 : Option Value} {r : List (Option Value)} {x : Nat} (hd : decode mi.2.1 pc = .ok (.aload 8, 2)) (n : AW w P d mi k (pc + 2) (a0 :: a1 :: a2 :: a3 :: a4 :: a5 :: a6 :: a7 :: some (.ref x) :: r) (.ref x :: st) h) : AW w P d mi k pc (a0 :: a1 :: a2 :: a3 :: a4 :: a5 :: a6 :: a7 :: some (.ref x) :: r) st h := aw_aload K hd rfl n
theorem aw_as8 (K : AOK w mi k) {a0 a1 a2 a3 a4 a5 a6 a7 : Option Value} {b : Option Value} {r : List (Option Value)} {x : Nat} (hd : decode mi.2.1 pc = .ok (.astore 8, 2)) (hb : 8 < mi.2.2.1) (hp : aw_c1 a7 = true) (n : AW w P d mi k (pc + 2) (a0 :: a1 :: a2 :: a3 :: a4 :: a5 :: a6 :: a7 :: some (.ref x) :: r) st h) : AW w P d mi k pc (a0 :: a1 :: a2 :: a3 :: a4 :: a5 :: a6 :: a7 :: b :: r) (.ref x :: st) h := aw_astore K hd hb (fun j o hj ho => by
  obtain rfl : j = 7 := by omega
  simp at ho
  subst ho
  exact hp) n
theorem aw_ii8 (K : AOK w mi k) {a0 a1 a2 a3 a4 a5 a6 a7 : Option Value} {r : List (Option Value)} {x v : Int32} {n0 : Int} (hd : decode mi.2.1 pc = .ok (.iinc 8 n0, 3)) (hv : x + Int32.ofInt n0 = v) (hb : 8 < mi.2.2.1) (hp : aw_c1 a7 = true) (n : AW w P d mi k (pc + 3) (a0 :: a1 :: a2 :: a3 :: a4 :: a5 :: a6 :: a7 :: some (.int v) :: r) st h) : AW w P d mi k pc (a0 :: a1 :: a2 :: a3 :: a4 :: a5 :: a6 :: a7 :: some (.int x) :: r) st h := aw_iinc K hd rfl hv hb (fun j o hj ho => by
  obtain rfl : j = 7 := by omega
  simp at ho
  subst ho
  exact hp) n
theorem aw_il9 (K : AOK w mi k) {a0 a1 a2 a3 a4 a5 a6 a7 a8 : Option Value} {r : List (Option Value)} {x : Int32} (hd : decode mi.2.1 pc = .ok (.iload 9, 2)) (n : AW w P d mi k (pc + 2) (a0 :: a1 :: a2 :: a3 :: a4 :: a5 :: a6 :: a7 :: a8 :: some (.int x) :: r) (.int x :: st) h) : AW w P d mi k pc (a0 :: a1 :: a2 :: a3 :: a4 :: a5 :: a6 :: a7 :: a8 :: some (.int x) :: r) st h := aw_iload K hd rfl n
theorem aw_is9 (K : AOK w mi k) {a0 a1 a2 a3 a4 a5 a6 a7 a8 : Option Value} {b : Option Value} {r : List (Option Value)} {x : Int32} (hd : decode mi.2.1 pc = .ok (.istore 9, 2)) (hb : 9 < mi.2.2.1) (hp : aw_c1 a8 = true) (n : AW w P d mi k (pc + 2) (a0 :: a1 :: a2 :: a3 :: a4 :: a5 :: a6 :: a7 :: a8 :: some (.int x) :: r) st h) : AW w P d mi k pc (a0 :: a1 :: a2 :: a3 :: a4 :: a5 :: a6 :: a7 :: a8 :: b :: r) (.int x :: st) h := aw_istore K hd hb (fun j o hj ho => by
  obtain rfl : j = 8 := by omega
  simp at ho
  subst ho
  exact hp) n
theorem aw_ll9 (K : AOK w mi k) {a0 a1 a2 a3 a4 a5 a6 a7 a8 : Option Value} {r : List (Option Value)} {x : Int64} (hd : decode mi.2.1 pc = .ok (.lload 9, 2)) (n : AW w P d mi k (pc + 2) (a0 :: a1 :: a2 :: a3 :: a4 :: a5 :: a6 :: a7 :: a8 :: some (.long x) :: r) (.long x :: st) h) : AW w P d mi k pc (a0 :: a1 :: a2 :: a3 :: a4 :: a5 :: a6 :: a7 :: a8 :: some (.long x) :: r) st h := aw_lload K hd rfl n
theorem aw_ls9 (K : AOK w mi k) {a0 a1 a2 a3 a4 a5 a6 a7 a8 : Option Value} {b b2 : Option Value} {r : List (Option Value)} {x : Int64} (hd : decode mi.2.1 pc = .ok (.lstore 9, 2)) (hb : 10 < mi.2.2.1) (hp : aw_c1 a8 = true) (n : AW w P d mi k (pc + 2) (a0 :: a1 :: a2 :: a3 :: a4 :: a5 :: a6 :: a7 :: a8 :: some (.long x) :: none :: r) st h) : AW w P d mi k pc (a0 :: a1 :: a2 :: a3 :: a4 :: a5 :: a6 :: a7 :: a8 :: b :: b2 :: r) (.long x :: st) h := aw_lstore K hd hb (fun j o hj ho => by
  obtain rfl : j = 8 := by omega
  simp at ho
  subst ho
  exact hp) n
theorem aw_al9 (K : AOK w mi k) {a0 a1 a2 a3 a4 a5 a6 a7 a8 : Option Value} {r : List (Option Value)} {x : Nat} (hd : decode mi.2.1 pc = .ok (.aload 9, 2)) (n : AW w P d mi k (pc + 2) (a0 :: a1 :: a2 :: a3 :: a4 :: a5 :: a6 :: a7 :: a8 :: some (.ref x) :: r) (.ref x :: st) h) : AW w P d mi k pc (a0 :: a1 :: a2 :: a3 :: a4 :: a5 :: a6 :: a7 :: a8 :: some (.ref x) :: r) st h := aw_aload K hd rfl n
theorem aw_as9 (K : AOK w mi k) {a0 a1 a2 a3 a4 a5 a6 a7 a8 : Option Value} {b : Option Value} {r : List (Option Value)} {x : Nat} (hd : decode mi.2.1 pc = .ok (.astore 9, 2)) (hb : 9 < mi.2.2.1) (hp : aw_c1 a8 = true) (n : AW w P d mi k (pc + 2) (a0 :: a1 :: a2 :: a3 :: a4 :: a5 :: a6 :: a7 :: a8 :: some (.ref x) :: r) st h) : AW w P d mi k pc (a0 :: a1 :: a2 :: a3 :: a4 :: a5 :: a6 :: a7 :: a8 :: b :: r) (.ref x :: st) h := aw_astore K hd hb (fun j o hj ho => by
  obtain rfl : j = 8 := by omega
  simp at ho
  subst ho
  exact hp) n
theorem aw_ii9 (K : AOK w mi k) {a0 a1 a2 a3 a4 a5 a6 a7 a8 : Option Value} {r : List (Option Value)} {x v : Int32} {n0 : Int} (hd : decode mi.2.1 pc = .ok (.iinc 9 n0, 3)) (hv : x + Int32.ofInt n0 = v) (hb : 9 < mi.2.2.1) (hp : aw_c1 a8 = true) (n : AW w P d mi k (pc + 3) (a0 :: a1 :: a2 :: a3 :: a4 :: a5 :: a6 :: a7 :: a8 :: some (.int v) :: r) st h) : AW w P d mi k pc (a0 :: a1 :: a2 :: a3 :: a4 :: a5 :: a6 :: a7 :: a8 :: some (.int x) :: r) st h := aw_iinc K hd rfl hv hb (fun j o hj ho => by
  obtain rfl : j = 8 := by omega
  simp at ho
  subst ho
  exact hp) n
theorem aw_il10 (K : AOK w mi k) {a0 a1 a2 a3 a4 a5 a6 a7 a8 a9 : Option Value} {r : List (Option Value)} {x : Int32} (hd : decode mi.2.1 pc = .ok (.iload 10, 2)) (n : AW w P d mi k (pc + 2) (a0 :: a1 :: a2 :: a3 :: a4 :: a5 :: a6 :: a7 :: a8 :: a9 :: some (.int x) :: r) (.int x :: st) h) : AW w P d mi k pc (a0 :: a1 :: a2 :: a3 :: a4 :: a5 :: a6 :: a7 :: a8 :: a9 :: some (.int x) :: r) st h := aw_iload K hd rfl n
theorem aw_is10 (K : AOK w mi k) {a0 a1 a2 a3 a4 a5 a6 a7 a8 a9 : Option Value} {b : Option Value} {r : List (Option Value)} {x : Int32} (hd : decode mi.2.1 pc = .ok (.istore 10, 2)) (hb : 10 < mi.2.2.1) (hp : aw_c1 a9 = true) (n : AW w P d mi k (pc + 2) (a0 :: a1 :: a2 :: a3 :: a4 :: a5 :: a6 :: a7 :: a8 :: a9 :: some (.int x) :: r) st h) : AW w P d mi k pc (a0 :: a1 :: a2 :: a3 :: a4 :: a5 :: a6 :: a7 :: a8 :: a9 :: b :: r) (.int x :: st) h := aw_istore K hd hb (fun j o hj ho => by
  obtain rfl : j = 9 := by omega
  simp at ho
  subst ho
  exact hp) n
theorem aw_ll10 (K : AOK w mi k) {a0 a1 a2 a3 a4 a5 a6 a7 a8 a9 : Option Value} {r : List (Option Value)} {x : Int64} (hd : decode mi.2.1 pc = .ok (.lload 10, 2)) (n : AW w P d mi k (pc + 2) (a0 :: a1 :: a2 :: a3 :: a4 :: a5 :: a6 :: a7 :: a8 :: a9 :: some (.long x) :: r) (.long x :: st) h) : AW w P d mi k pc (a0 :: a1 :: a2 :: a3 :: a4 :: a5 :: a6 :: a7 :: a8 :: a9 :: some (.long x) :: r) st h := aw_lload K hd rfl n
theorem aw_ls10 (K : AOK w mi k) {a0 a1 a2 a3 a4 a5 a6 a7 a8 a9 : Option Value} {b b2 : Option Value} {r : List (Option Value)} {x : Int64} (hd : decode mi.2.1 pc = .ok (.lstore 10, 2)) (hb : 11 < mi.2.2.1) (hp : aw_c1 a9 = true) (n : AW w P d mi k (pc + 2) (a0 :: a1 :: a2 :: a3 :: a4 :: a5 :: a6 :: a7 :: a8 :: a9 :: some (.long x) :: none :: r) st h) : AW w P d mi k pc (a0 :: a1 :: a2 :: a3 :: a4 :: a5 :: a6 :: a7 :: a8 :: a9 :: b :: b2 :: r) (.long x :: st) h := aw_lstore K hd hb (fun j o hj ho => by
  obtain rfl : j = 9 := by omega
  simp at ho
  subst ho
  exact hp) n
theorem aw_al10 (K : AOK w mi k) {a0 a1 a2 a3 a4 a5 a6 a7 a8 a9 : Option Value} {r : List (Option Value)} {x : Nat} (hd : decode mi.2.1 pc = .ok (.aload 10, 2)) (n : AW w P d mi k (pc + 2) (a0 :: a1 :: a2 :: a3 :: a4 :: a5 :: a6 :: a7 :: a8 :: a9 :: some (.ref x) :: r) (.ref x :: st) h) : AW w P d mi k pc (a0 :: a1 :: a2 :: a3 :: a4 :: a5 :: a6 :: a7 :: a8 :: a9 :: some (.ref x) :: r) st h := aw_aload K hd rfl n
theorem aw_as10 (K : AOK w mi k) {a0 a1 a2 a3 a4 a5 a6 a7 a8 a9 : Option Value} {b : Option Value} {r : List (Option Value)} {x : Nat} (hd : decode mi.2.1 pc = .ok (.astore 10, 2)) (hb : 10 < mi.2.2.1) (hp : aw_c1 a9 = true) (n : AW w P d mi k (pc + 2) (a0 :: a1 :: a2 :: a3 :: a4 :: a5 :: a6 :: a7 :: a8 :: a9 :: some (.ref x) :: r) st h) : AW w P d mi k pc (a0 :: a1 :: a2 :: a3 :: a4 :: a5 :: a6 :: a7 :: a8 :: a9 :: b :: r) (.ref x :: st) h := aw_astore K hd hb (fun j o hj ho => by
  obtain rfl : j = 9 := by omega
  simp at ho
  subst ho
  exact hp) n
theorem aw_ii10 (K : AOK w mi k) {a0 a1 a2 a3 a4 a5 a6 a7 a8 a9 : Option Value} {r : List (Option Value)} {x v : Int32} {n0 : Int} (hd : decode mi.2.1 pc = .ok (.iinc 10 n0, 3)) (hv : x + Int32.ofInt n0 = v) (hb : 10 < mi.2.2.1) (hp : aw_c1 a9 = true) (n : AW w P d mi k (pc + 3) (a0 :: a1 :: a2 :: a3 :: a4 :: a5 :: a6 :: a7 :: a8 :: a9 :: some (.int v) :: r) st h) : AW w P d mi k pc (a0 :: a1 :: a2 :: a3 :: a4 :: a5 :: a6 :: a7 :: a8 :: a9 :: some (.int x) :: r) st h := aw_iinc K hd rfl hv hb (fun j o hj ho => by
  obtain rfl : j = 9 := by omega
  simp at ho
  subst ho
  exact hp) n
theorem aw_il11 (K : AOK w mi k) {a0 a1 a2 a3 a4 a5 a6 a7 a8 a9 a10 : Option Value} {r : List (Option Value)} {x : Int32} (hd : decode mi.2.1 pc = .ok (.iload 11, 2)) (n : AW w P d mi k (pc + 2) (a0 :: a1 :: a2 :: a3 :: a4 :: a5 :: a6 :: a7 :: a8 :: a9 :: a10 :: some (.int x) :: r) (.int x :: st) h) : AW w P d mi k pc (a0 :: a1 :: a2 :: a3 :: a4 :: a5 :: a6 :: a7 :: a8 :: a9 :: a10 :: some (.int x) :: r) st h := aw_iload K hd rfl n
theorem aw_is11 (K : AOK w mi k) {a0 a1 a2 a3 a4 a5 a6 a7 a8 a9 a10 : Option Value} {b : Option Value} {r : List (Option Value)} {x : Int32} (hd : decode mi.2.1 pc = .ok (.istore 11, 2)) (hb : 11 < mi.2.2.1) (hp : aw_c1 a10 = true) (n : AW w P d mi k (pc + 2) (a0 :: a1 :: a2 :: a3 :: a4 :: a5 :: a6 :: a7 :: a8 :: a9 :: a10 :: some (.int x) :: r) st h) : AW w P d mi k pc (a0 :: a1 :: a2 :: a3 :: a4 :: a5 :: a6 :: a7 :: a8 :: a9 :: a10 :: b :: r) (.int x :: st) h := aw_istore K hd hb (fun j o hj ho => by
  obtain rfl : j = 10 := by omega
  simp at ho
  subst ho
  exact hp) n
theorem aw_ll11 (K : AOK w mi k) {a0 a1 a2 a3 a4 a5 a6 a7 a8 a9 a10 : Option Value} {r : List (Option Value)} {x : Int64} (hd : decode mi.2.1 pc = .ok (.lload 11, 2)) (n : AW w P d mi k (pc + 2) (a0 :: a1 :: a2 :: a3 :: a4 :: a5 :: a6 :: a7 :: a8 :: a9 :: a10 :: some (.long x) :: r) (.long x :: st) h) : AW w P d mi k pc (a0 :: a1 :: a2 :: a3 :: a4 :: a5 :: a6 :: a7 :: a8 :: a9 :: a10 :: some (.long x) :: r) st h := aw_lload K hd rfl n
theorem aw_ls11 (K : AOK w mi k) {a0 a1 a2 a3 a4 a5 a6 a7 a8 a9 a10 : Option Value} {b b2 : Option Value} {r : List (Option Value)} {x : Int64} (hd : decode mi.2.1 pc = .ok (.lstore 11, 2)) (hb : 12 < mi.2.2.1) (hp : aw_c1 a10 = true) (n : AW w P d mi k (pc + 2) (a0 :: a1 :: a2 :: a3 :: a4 :: a5 :: a6 :: a7 :: a8 :: a9 :: a10 :: some (.long x) :: none :: r) st h) : AW w P d mi k pc (a0 :: a1 :: a2 :: a3 :: a4 :: a5 :: a6 :: a7 :: a8 :: a9 :: a10 :: b :: b2 :: r) (.long x :: st) h := aw_lstore K hd hb (fun j o hj ho => by
  obtain rfl : j = 10 := by omega
  simp at ho
  subst ho
  exact hp) n
theorem aw_al11 (K : AOK w mi k) {a0 a1 a2 a3 a4 a5 a6 a7 a8 a9 a10 : Option Value} {r : List (Option Value)} {x : Nat} (hd : decode mi.2.1 pc = .ok (.aload 11, 2)) (n : AW w P d mi k (pc + 2) (a0 :: a1 :: a2 :: a3 :: a4 :: a5 :: a6 :: a7 :: a8 :: a9 :: a10 :: some (.ref x) :: r) (.ref x :: st) h) : AW w P d mi k pc (a0 :: a1 :: a2 :: a3 :: a4 :: a5 :: a6 :: a7 :: a8 :: a9 :: a10 :: some (.ref x) :: r) st h := aw_aload K hd rfl n
theorem aw_as11 (K : AOK w mi k) {a0 a1 a2 a3 a4 a5 a6 a7 a8 a9 a10 : Option Value} {b : Option Value} {r : List (Option Value)} {x : Nat} (hd : decode mi.2.1 pc = .ok (.astore 11, 2)) (hb : 11 < mi.2.2.1) (hp : aw_c1 a10 = true) (n : AW w P d mi k (pc + 2) (a0 :: a1 :: a2 :: a3 :: a4 :: a5 :: a6 :: a7 :: a8 :: a9 :: a10 :: some (.ref x) :: r) st h) : AW w P d mi k pc (a0 :: a1 :: a2 :: a3 :: a4 :: a5 :: a6 :: a7 :: a8 :: a9 :: a10 :: b :: r) (.ref x :: st) h := aw_astore K hd hb (fun j o hj ho => by
  obtain rfl : j = 10 := by omega
  simp at ho
  subst ho
  exact hp) n
theorem aw_ii11 (K : AOK w mi k) {a0 a1 a2 a3 a4 a5 a6 a7 a8 a9 a10 : Option Value} {r : List (Option Value)} {x v : Int32} {n0 : Int} (hd : decode mi.2.1 pc = .ok (.iinc 11 n0, 3)) (hv : x + Int32.ofInt n0 = v) (hb : 11 < mi.2.2.1) (hp : aw_c1 a10 = true) (n : AW w P d mi k (pc + 3) (a0 :: a1 :: a2 :: a3 :: a4 :: a5 :: a6 :: a7 :: a8 :: a9 :: a10 :: some (.int v) :: r) st h) : AW w P d mi k pc (a0 :: a1 :: a2 :: a3 :: a4 :: a5 :: a6 :: a7 :: a8 :: a9 :: a10 :: some (.int x) :: r) st h := aw_iinc K hd rfl hv hb (fun j o hj ho => by
  obtain rfl : j = 10 := by omega
  simp at ho
  subst ho
  exact hp) n
theorem aw_il12 (K : AOK w mi k) {a0 a1 a2 a3 a4 a5 a6 a7 a8 a9 a10 a11 : Option Value} {r : List (Option Value)} {x : Int32} (hd : decode mi.2.1 pc = .ok (.iload 12, 2)) (n : AW w P d mi k (pc + 2) (a0 :: a1 :: a2 :: a3 :: a4 :: a5 :: a6 :: a7 :: a8 :: a9 :: a10 :: a11 :: some (.int x) :: r) (.int x :: st) h) : AW w P d mi k pc (a0 :: a1 :: a2 :: a3 :: a4 :: a5 :: a6 :: a7 :: a8 :: a9 :: a10 :: a11 :: some (.int x) :: r) st h := aw_iload K hd rfl n
theorem aw_is12 (K : AOK w mi k) {a0 a1 a2 a3 a4 a5 a6 a7 a8 a9 a10 a11 : Option Value} {b : Option Value} {r : List (Option Value)} {x : Int32} (hd : decode mi.2.1 pc = .ok (.istore 12, 2)) (hb : 12 < mi.2.2.1) (hp : aw_c1 a11 = true) (n : AW w P d mi k (pc + 2) (a0 :: a1 :: a2 :: a3 :: a4 :: a5 :: a6 :: a7 :: a8 :: a9 :: a10 :: a11 :: some (.int x) :: r) st h) : AW w P d mi k pc (a0 :: a1 :: a2 :: a3 :: a4 :: a5 :: a6 :: a7 :: a8 :: a9 :: a10 :: a11 :: b :: r) (.int x :: st) h := aw_istore K hd hb (fun j o hj ho => by
  obtain rfl : j = 11 := by omega
  simp at ho
  subst ho
  exact hp) n
theorem aw_ll12 (K : AOK w mi k) {a0 a1 a2 a3 a4 a5 a6 a7 a8 a9 a10 a11 : Option Value} {r : List (Option Value)} {x : Int64} (hd : decode mi.2.1 pc = .ok (.lload 12, 2)) (n : AW w P d mi k (pc + 2) (a0 :: a1 :: a2 :: a3 :: a4 :: a5 :: a6 :: a7 :: a8 :: a9 :: a10 :: a11 :: some (.long x) :: r) (.long x :: st) h) : AW w P d mi k pc (a0 :: a1 :: a2 :: a3 :: a4 :: a5 :: a6 :: a7 :: a8 :: a9 :: a10 :: a11 :: some (.long x) :: r) st h := aw_lload K hd rfl n
theorem aw_ls12 (K : AOK w mi k) {a0 a1 a2 a3 a4 a5 a6 a7 a8 a9 a10 a11 : Option Value} {b b2 : Option Value} {r : List (Option Value)} {x : Int64} (hd : decode mi.2.1 pc = .ok (.lstore 12, 2)) (hb : 13 < mi.2.2.1) (hp : aw_c1 a11 = true) (n : AW w P d mi k (pc + 2) (a0 :: a1 :: a2 :: a3 :: a4 :: a5 :: a6 :: a7 :: a8 :: a9 :: a10 :: a11 :: some (.long x) :: none :: r) st h) : AW w P d mi k pc (a0 :: a1 :: a2 :: a3 :: a4 :: a5 :: a6 :: a7 :: a8 :: a9 :: a10 :: a11 :: b :: b2 :: r) (.long x :: st) h := aw_lstore K hd hb (fun j o hj ho => by
  obtain rfl : j = 11 := by omega
  simp at ho
  subst ho
  exact hp) n
theorem aw_al12 (K : AOK w mi k) {a0 a1 a2 a3 a4 a5 a6 a7 a8 a9 a10 a11 : Option Value} {r : List (Option Value)} {x : Nat} (hd : decode mi.2.1 pc = .ok (.aload 12, 2)) (n : AW w P d mi k (pc + 2) (a0 :: a1 :: a2 :: a3 :: a4 :: a5 :: a6 :: a7 :: a8 :: a9 :: a10 :: a11 :: some (.ref x) :: r) (.ref x :: st) h) : AW w P d mi k pc (a0 :: a1 :: a2 :: a3 :: a4 :: a5 :: a6 :: a7 :: a8 :: a9 :: a10 :: a11 :: some (.ref x) :: r) st h := aw_aload K hd rfl n
theorem aw_as12 (K : AOK w mi k) {a0 a1 a2 a3 a4 a5 a6 a7 a8 a9 a10 a11 : Option Value} {b : Option Value} {r : List (Option Value)} {x : Nat} (hd : decode mi.2.1 pc = .ok (.astore 12, 2)) (hb : 12 < mi.2.2.1) (hp : aw_c1 a11 = true) (n : AW w P d mi k (pc + 2) (a0 :: a1 :: a2 :: a3 :: a4 :: a5 :: a6 :: a7 :: a8 :: a9 :: a10 :: a11 :: some (.ref x) :: r) st h) : AW w P d mi k pc (a0 :: a1 :: a2 :: a3 :: a4 :: a5 :: a6 :: a7 :: a8 :: a9 :: a10 :: a11 :: b :: r) (.ref x :: st) h := aw_astore K hd hb (fun j o hj ho => by
  obtain rfl : j = 11 := by omega
  simp at ho
  subst ho
  exact hp) n
theorem aw_ii12 (K : AOK w mi k) {a0 a1 a2 a3 a4 a5 a6 a7 a8 a9 a10 a11 : Option Value} {r : List (Option Value)} {x v : Int32} {n0 : Int} (hd : decode mi.2.1 pc = .ok (.iinc 12 n0, 3)) (hv : x + Int32.ofInt n0 = v) (hb : 12 < mi.2.2.1) (hp : aw_c1 a11 = true) (n : AW w P d mi k (pc + 3) (a0 :: a1 :: a2 :: a3 :: a4 :: a5 :: a6 :: a7 :: a8 :: a9 :: a10 :: a11 :: some (.int v) :: r) st h) : AW w P d mi k pc (a0 :: a1 :: a2 :: a3 :: a4 :: a5 :: a6 :: a7 :: a8 :: a9 :: a10 :: a11 :: some (.int x) :: r) st h := aw_iinc K hd rfl hv hb (fun j o hj ho => by
  obtain rfl : j = 11 := by omega
  simp at ho
  subst ho
  exact hp) n
theorem aw_il13 (K : AOK w mi k) {a0 a1 a2 a3 a4 a5 a6 a7 a8 a9 a10 a11 a12 : Option Value} {r : List (Option Value)} {x : Int32} (hd : decode mi.2.1 pc = .ok (.iload 13, 2)) (n : AW w P d mi k (pc + 2) (a0 :: a1 :: a2 :: a3 :: a4 :: a5 :: a6 :: a7 :: a8 :: a9 :: a10 :: a11 :: a12 :: some (.int x) :: r) (.int x :: st) h) : AW w P d mi k pc (a0 :: a1 :: a2 :: a3 :: a4 :: a5 :: a6 :: a7 :: a8 :: a9 :: a10 :: a11 :: a12 :: some (.int x) :: r) st h := aw_iload K hd rfl n
theorem aw_is13 (K : AOK w mi k) {a0 a1 a2 a3 a4 a5 a6 a7 a8 a9 a10 a11 a12 : Option Value} {b : Option Value} {r : List (Option Value)} {x : Int32} (hd : decode mi.2.1 pc = .ok (.istore 13, 2)) (hb : 13 < mi.2.2.1) (hp : aw_c1 a12 = true) (n : AW w P d mi k (pc + 2) (a0 :: a1 :: a2 :: a3 :: a4 :: a5 :: a6 :: a7 :: a8 :: a9 :: a10 :: a11 :: a12 :: some (.int x) :: r) st h) : AW w P d mi k pc (a0 :: a1 :: a2 :: a3 :: a4 :: a5 :: a6 :: a7 :: a8 :: a9 :: a10 :: a11 :: a12 :: b :: r) (.int x :: st) h := aw_istore K hd hb (fun j o hj ho => by
  obtain rfl : j = 12 := by omega
  simp at ho
  subst ho
  exact hp) n
theorem aw_ll13 (K : AOK w mi k) {a0 a1 a2 a3 a4 a5 a6 a7 a8 a9 a10 a11 a12 : Option Value} {r : List (Option Value)} {x : Int64} (hd : decode mi.2.1 pc = .ok (.lload 13, 2)) (n : AW w P d mi k (pc + 2) (a0 :: a1 :: a2 :: a3 :: a4 :: a5 :: a6 :: a7 :: a8 :: a9 :: a10 :: a11 :: a12 :: some (.long x) :: r) (.long x :: st) h) : AW w P d mi k pc (a0 :: a1 :: a2 :: a3 :: a4 :: a5 :: a6 :: a7 :: a8 :: a9 :: a10 :: a11 :: a12 :: some (.long x) :: r) st h := aw_lload K hd rfl n
theorem aw_ls13 (K : AOK w mi k) {a0 a1 a2 a3 a4 a5 a6 a7 a8 a9 a10 a11 a12 : Option Value} {b b2 : Option Value} {r : List (Option Value)} {x : Int64} (hd : decode mi.2.1 pc = .ok (.lstore 13, 2)) (hb : 14 < mi.2.2.1) (hp : aw_c1 a12 = true) (n : AW w P d mi k (pc + 2) (a0 :: a1 :: a2 :: a3 :: a4 :: a5 :: a6 :: a7 :: a8 :: a9 :: a10 :: a11 :: a12 :: some (.long x) :: none :: r) st h) : AW w P d mi k pc (a0 :: a1 :: a2 :: a3 :: a4 :: a5 :: a6 :: a7 :: a8 :: a9 :: a10 :: a11 :: a12 :: b :: b2 :: r) (.long x :: st) h := aw_lstore K hd hb (fun j o hj ho => by
  obtain rfl : j = 12 := by omega
  simp at ho
  subst ho
  exact hp) n
theorem aw_al13 (K : AOK w mi k) {a0 a1 a2 a3 a4 a5 a6 a7 a8 a9 a10 a11 a12 : Option Value} {r : List (Option Value)} {x : Nat} (hd : decode mi.2.1 pc = .ok (.aload 13, 2)) (n : AW w P d mi k (pc + 2) (a0 :: a1 :: a2 :: a3 :: a4 :: a5 :: a6 :: a7 :: a8 :: a9 :: a10 :: a11 :: a12 :: some (.ref x) :: r) (.ref x :: st) h) : AW w P d mi k pc (a0 :: a1 :: a2 :: a3 :: a4 :: a5 :: a6 :: a7 :: a8 :: a9 :: a10 :: a11 :: a12 :: some (.ref x) :: r) st h := aw_aload K hd rfl n
theorem aw_as13 (K : AOK w mi k) {a0 a1 a2 a3 a4 a5 a6 a7 a8 a9 a10 a11 a12 : Option Value} {b : Option Value} {r : List (Option Value)} {x : Nat} (hd : decode mi.2.1 pc = .ok (.astore 13, 2)) (hb : 13 < mi.2.2.1) (hp : aw_c1 a12 = true) (n : AW w P d mi k (pc + 2) (a0 :: a1 :: a2 :: a3 :: a4 :: a5 :: a6 :: a7 :: a8 :: a9 :: a10 :: a11 :: a12 :: some (.ref x) :: r) st h) : AW w P d mi k pc (a0 :: a1 :: a2 :: a3 :: a4 :: a5 :: a6 :: a7 :: a8 :: a9 :: a10 :: a11 :: a12 :: b :: r) (.ref x :: st) h := aw_astore K hd hb (fun j o hj ho => by
  obtain rfl : j = 12 := by omega
  simp at ho
  subst ho
  exact hp) n
theorem aw_ii13 (K : AOK w mi k) {a0 a1 a2 a3 a4 a5 a6 a7 a8 a9 a10 a11 a12 : Option Value} {r : List (Option Value)} {x v : Int32} {n0 : Int} (hd : decode mi.2.1 pc = .ok (.iinc 13 n0, 3)) (hv : x + Int32.ofInt n0 = v) (hb : 13 < mi.2.2.1) (hp : aw_c1 a12 = true) (n : AW w P d mi k (pc + 3) (a0 :: a1 :: a2 :: a3 :: a4 :: a5 :: a6 :: a7 :: a8 :: a9 :: a10 :: a11 :: a12 :: some (.int v) :: r) st h) : AW w P d mi k pc (a0 :: a1 :: a2 :: a3 :: a4 :: a5 :: a6 :: a7 :: a8 :: a9 :: a10 :: a11 :: a12 :: some (.int x) :: r) st h := aw_iinc K hd rfl hv hb (fun j o hj ho => by
  obtain rfl : j = 12 := by omega
  simp at ho
  subst ho
  exact hp) n
theorem aw_il14 (K : AOK w mi k) {a0 a1 a2 a3 a4 a5 a6 a7 a8 a9 a10 a11 a12 a13 : Option Value} {r : List (Option Value)} {x : Int32} (hd : decode mi.2.1 pc = .ok (.iload 14, 2)) (n : AW w P d mi k (pc + 2) (a0 :: a1 :: a2 :: a3 :: a4 :: a5 :: a6 :: a7 :: a8 :: a9 :: a10 :: a11 :: a12 :: a13 :: some (.int x) :: r) (.int x :: st) h) : AW w P d mi k pc (a0 :: a1 :: a2 :: a3 :: a4 :: a5 :: a6 :: a7 :: a8 :: a9 :: a10 :: a11 :: a12 :: a13 :: some (.int x) :: r) st h := aw_iload K hd rfl n
theorem aw_is14 (K : AOK w mi k) {a0 a1 a2 a3 a4 a5 a6 a7 a8 a9 a10 a11 a12 a13 : Option Value} {b : Option Value} {r : List (Option Value)} {x : Int32} (hd : decode mi.2.1 pc = .ok (.istore 14, 2)) (hb : 14 < mi.2.2.1) (hp : aw_c1 a13 = true) (n : AW w P d mi k (pc + 2) (a0 :: a1 :: a2 :: a3 :: a4 :: a5 :: a6 :: a7 :: a8 :: a9 :: a10 :: a11 :: a12 :: a13 :: some (.int x) :: r) st h) : AW w P d mi k pc (a0 :: a1 :: a2 :: a3 :: a4 :: a5 :: a6 :: a7 :: a8 :: a9 :: a10 :: a11 :: a12 :: a13 :: b :: r) (.int x :: st) h := aw_istore K hd hb (fun j o hj ho => by
  obtain rfl : j = 13 := by omega
  simp at ho
  subst ho
  exact hp) n
theorem aw_ll14 (K : AOK w mi k) {a0 a1 a2 a3 a4 a5 a6 a7 a8 a9 a10 a11 a12 a13 : Option Value} {r : List (Option Value)} {x : Int64} (hd : decode mi.2.1 pc = .ok (.lload 14, 2)) (n : AW w P d mi k (pc + 2) (a0 :: a1 :: a2 :: a3 :: a4 :: a5 :: a6 :: a7 :: a8 :: a9 :: a10 :: a11 :: a12 :: a13 :: some (.long x) :: r) (.long x :: st) h) : AW w P d mi k pc (a0 :: a1 :: a2 :: a3 :: a4 :: a5 :: a6 :: a7 :: a8 :: a9 :: a10 :: a11 :: a12 :: a13 :: some (.long x) :: r) st h := aw_lload K hd rfl n
theorem aw_ls14 (K : AOK w mi k) {a0 a1 a2 a3 a4 a5 a6 a7 a8 a9 a10 a11 a12 a13 : Option Value} {b b2 : Option Value} {r : List (Option Value)} {x : Int64} (hd : decode mi.2.1 pc = .ok (.lstore 14, 2)) (hb : 15 < mi.2.2.1) (hp : aw_c1 a13 = true) (n : AW w P d mi k (pc + 2) (a0 :: a1 :: a2 :: a3 :: a4 :: a5 :: a6 :: a7 :: a8 :: a9 :: a10 :: a11 :: a12 :: a13 :: some (.long x) :: none :: r) st h) : AW w P d mi k pc (a0 :: a1 :: a2 :: a3 :: a4 :: a5 :: a6 :: a7 :: a8 :: a9 :: a10 :: a11 :: a12 :: a13 :: b :: b2 :: r) (.long x :: st) h := aw_lstore K hd hb (fun j o hj ho => by
  obtain rfl : j = 13 := by omega
  simp at ho
  subst ho
  exact hp) n
theorem aw_al14 (K : AOK w mi k) {a0 a1 a2 a3 a4 a5 a6 a7 a8 a9 a10 a11 a12 a13 : Option Value} {r : List (Option Value)} {x : Nat} (hd : decode mi.2.1 pc = .ok (.aload 14, 2)) (n : AW w P d mi k (pc + 2) (a0 :: a1 :: a2 :: a3 :: a4 :: a5 :: a6 :: a7 :: a8 :: a9 :: a10 :: a11 :: a12 :: a13 :: some (.ref x) :: r) (.ref x :: st) h) : AW w P d mi k pc (a0 :: a1 :: a2 :: a3 :: a4 :: a5 :: a6 :: a7 :: a8 :: a9 :: a10 :: a11 :: a12 :: a13 :: some (.ref x) :: r) st h := aw_aload K hd rfl n
theorem aw_as14 (K : AOK w mi k) {a0 a1 a2 a3 a4 a5 a6 a7 a8 a9 a10 a11 a12 a13 : Option Value} {b : Option Value} {r : List (Option Value)} {x : Nat} (hd : decode mi.2.1 pc = .ok (.astore 14, 2)) (hb : 14 < mi.2.2.1) (hp : aw_c1 a13 = true) (n : AW w P d mi k (pc + 2) (a0 :: a1 :: a2 :: a3 :: a4 :: a5 :: a6 :: a7 :: a8 :: a9 :: a10 :: a11 :: a12 :: a13 :: some (.ref x) :: r) st h) : AW w P d mi k pc (a0 :: a1 :: a2 :: a3 :: a4 :: a5 :: a6 :: a7 :: a8 :: a9 :: a10 :: a11 :: a12 :: a13 :: b :: r) (.ref x :: st) h := aw_astore K hd hb (fun j o hj ho => by
  obtain rfl : j = 13 := by omega
  simp at ho
  subst ho
  exact hp) n
theorem aw_ii14 (K : AOK w mi k) {a0 a1 a2 a3 a4 a5 a6 a7 a8 a9 a10 a11 a12 a13 : Option Value} {r : List (Option Value)} {x v : Int32} {n0 : Int} (hd : decode mi.2.1 pc = .ok (.iinc 14 n0, 3)) (hv : x + Int32.ofInt n0 = v) (hb : 14 < mi.2.2.1) (hp : aw_c1 a13 = true) (n : AW w P d mi k (pc + 3) (a0 :: a1 :: a2 :: a3 :: a4 :: a5 :: a6 :: a7 :: a8 :: a9 :: a10 :: a11 :: a12 :: a13 :: some (.int v) :: r) st h) : AW w P d mi k pc (a0 :: a1 :: a2 :: a3 :: a4 :: a5 :: a6 :: a7 :: a8 :: a9 :: a10 :: a11 :: a12 :: a13 :: some (.int x) :: r) st h := aw_iinc K hd rfl hv hb (fun j o hj ho => by
  obtain rfl : j = 13 := by omega
  simp at ho
  subst ho
  exact hp) n
theorem aw_il15 (K : AOK w mi k) {a0 a1 a2 a3 a4 a5 a6 a7 a8 a9 a10 a11 a12 a13 a14 : Option Value} {r : List (Option Value)} {x : Int32} (hd : decode mi.2.1 pc = .ok (.iload 15, 2)) (n : AW w P d mi k (pc + 2) (a0 :: a1 :: a2 :: a3 :: a4 :: a5 :: a6 :: a7 :: a8 :: a9 :: a10 :: a11 :: a12 :: a13 :: a14 :: some (.int x) :: r) (.int x :: st) h) : AW w P d mi k pc (a0 :: a1 :: a2 :: a3 :: a4 :: a5 :: a6 :: a7 :: a8 :: a9 :: a10 :: a11 :: a12 :: a13 :: a14 :: some (.int x) :: r) st h := aw_iload K hd rfl n
theorem aw_is15 (K : AOK w mi k) {a0 a1 a2 a3 a4 a5 a6 a7 a8 a9 a10 a11 a12 a13 a14 : Option Value} {b : Option Value} {r : List (Option Value)} {x : Int32} (hd : decode mi.2.1 pc = .ok (.istore 15, 2)) (hb : 15 < mi.2.2.1) (hp : aw_c1 a14 = true) (n : AW w P d mi k (pc + 2) (a0 :: a1 :: a2 :: a3 :: a4 :: a5 :: a6 :: a7 :: a8 :: a9 :: a10 :: a11 :: a12 :: a13 :: a14 :: some (.int x) :: r) st h) : AW w P d mi k pc (a0 :: a1 :: a2 :: a3 :: a4 :: a5 :: a6 :: a7 :: a8 :: a9 :: a10 :: a11 :: a12 :: a13 :: a14 :: b :: r) (.int x :: st) h := aw_istore K hd hb (fun j o hj ho => by
  obtain rfl : j = 14 := by omega
  simp at ho
  subst ho
  exact hp) n
theorem aw_ll15 (K : AOK w mi k) {a0 a1 a2 a3 a4 a5 a6 a7 a8 a9 a10 a11 a12 a13 a14 : Option Value} {r : List (Option Value)} {x : Int64} (hd : decode mi.2.1 pc = .ok (.lload 15, 2)) (n : AW w P d mi k (pc + 2) (a0 :: a1 :: a2 :: a3 :: a4 :: a5 :: a6 :: a7 :: a8 :: a9 :: a10 :: a11 :: a12 :: a13 :: a14 :: some (.long x) :: r) (.long x :: st) h) : AW w P d mi k pc (a0 :: a1 :: a2 :: a3 :: a4 :: a5 :: a6 :: a7 :: a8 :: a9 :: a10 :: a11 :: a12 :: a13 :: a14 :: some (.long x) :: r) st h := aw_lload K hd rfl n
theorem aw_ls15 (K : AOK w mi k) {a0 a1 a2 a3 a4 a5 a6 a7 a8 a9 a10 a11 a12 a13 a14 : Option Value} {b b2 : Option Value} {r : List (Option Value)} {x : Int64} (hd : decode mi.2.1 pc = .ok (.lstore 15, 2)) (hb : 16 < mi.2.2.1) (hp : aw_c1 a14 = true) (n : AW w P d mi k (pc + 2) (a0 :: a1 :: a2 :: a3 :: a4 :: a5 :: a6 :: a7 :: a8 :: a9 :: a10 :: a11 :: a12 :: a13 :: a14 :: some (.long x) :: none :: r) st h) : AW w P d mi k pc (a0 :: a1 :: a2 :: a3 :: a4 :: a5 :: a6 :: a7 :: a8 :: a9 :: a10 :: a11 :: a12 :: a13 :: a14 :: b :: b2 :: r) (.long x :: st) h := aw_lstore K hd hb (fun j o hj ho => by
  obtain rfl : j = 14 := by omega
  simp at ho
  subst ho
  exact hp) n
theorem aw_al15 (K : AOK w mi k) {a0 a1 a2 a3 a4 a5 a6 a7 a8 a9 a10 a11 a12 a13 a14 : Option Value} {r : List (Option Value)} {x : Nat} (hd : decode mi.2.1 pc = .ok (.aload 15, 2)) (n : AW w P d mi k (pc + 2) (a0 :: a1 :: a2 :: a3 :: a4 :: a5 :: a6 :: a7 :: a8 :: a9 :: a10 :: a11 :: a12 :: a13 :: a14 :: some (.ref x) :: r) (.ref x :: st) h) : AW w P d mi k pc (a0 :: a1 :: a2 :: a3 :: a4 :: a5 :: a6 :: a7 :: a8 :: a9 :: a10 :: a11 :: a12 :: a13 :: a14 :: some (.ref x) :: r) st h := aw_aload K hd rfl n
theorem aw_as15 (K : AOK w mi k) {a0 a1 a2 a3 a4 a5 a6 a7 a8 a9 a10 a11 a12 a13 a14 : Option Value} {b : Option Value} {r : List (Option Value)} {x : Nat} (hd : decode mi.2.1 pc = .ok (.astore 15, 2)) (hb : 15 < mi.2.2.1) (hp : aw_c1 a14 = true) (n : AW w P d mi k (pc + 2) (a0 :: a1 :: a2 :: a3 :: a4 :: a5 :: a6 :: a7 :: a8 :: a9 :: a10 :: a11 :: a12 :: a13 :: a14 :: some (.ref x) :: r) st h) : AW w P d mi k pc (a0 :: a1 :: a2 :: a3 :: a4 :: a5 :: a6 :: a7 :: a8 :: a9 :: a10 :: a11 :: a12 :: a13 :: a14 :: b :: r) (.ref x :: st) h := aw_astore K hd hb (fun j o hj ho => by
  obtain rfl : j = 14 := by omega
  simp at ho
  subst ho
  exact hp) n
theorem aw_ii15 (K : AOK w mi k) {a0 a1 a2 a3 a4 a5 a6 a7 a8 a9 a10 a11 a12 a13 a14 : Option Value} {r : List (Option Value)} {x v : Int32} {n0 : Int} (hd : decode mi.2.1 pc = .ok (.iinc 15 n0, 3)) (hv : x + Int32.ofInt n0 = v) (hb : 15 < mi.2.2.1) (hp : aw_c1 a14 = true) (n : AW w P d mi k (pc + 3) (a0 :: a1 :: a2 :: a3 :: a4 :: a5 :: a6 :: a7 :: a8 :: a9 :: a10 :: a11 :: a12 :: a13 :: a14 :: some (.int v) :: r) st h) : AW w P d mi k pc (a0 :: a1 :: a2 :: a3 :: a4 :: a5 :: a6 :: a7 :: a8 :: a9 :: a10 :: a11 :: a12 :: a13 :: a14 :: some (.int x) :: r) st h := aw_iinc K hd rfl hv hb (fun j o hj ho => by
  obtain rfl : j = 14 := by omega
  simp at ho
  subst ho
  exact hp) n
end AWL
/-- a contract out of a walk, the locals laid out -/
theorem CT.at {w : WT} {d : Nat} {mi : MI} {av : List Value} {h : HS} {P : Option Value → HS → Prop} (L0 : List (Option Value)) (pad : Nat) (hL : aw_en av ++ List.replicate pad none = L0) (hy : plainName mi.1.cls = true) (hn : (lg_sl av).length ≤ mi.2.2.1)
    (body : ∀ k : KT, AOK w mi k → AW w P d mi k 0 L0 [] h) : CT w d mi av h P := by
  refine CT.of hy hn (fun k K => ?_)
  have hb := body k K
  obtain ⟨p, e, s, m, args, below, meth, c, A⟩ := k
  refine fun H lo la a1 a2 a3 a4 => hb H lo la ⟨a1.1, a1.2.1, fun i v hv => ?_⟩ a2 a3 a4
  rw [← hL] at hv
  by_cases hi : i < (aw_en av).length
  · rw [List.getElem?_append_left hi] at hv
    exact a1.2.2 i v hv
  · rw [List.getElem?_append_right (by omega), List.getElem?_replicate] at hv
    split at hv <;> simp at hv
/-- a truth as an int -/
def bI (p : Prop) [Decidable p] : Int32 := if p then 1 else 0
theorem bI_nar (p : Prop) [Decidable p] : narrow .boolean (.int (bI p)) = .int (bI p) := by
  unfold bI
  split <;> rfl
theorem bI_t {p : Prop} [Decidable p] (h : p) : bI p = 1 := if_pos h
theorem bI_f {p : Prop} [Decidable p] (h : ¬ p) : bI p = 0 := if_neg h
theorem bI_0 {p : Prop} [Decidable p] : bI p = 0 ↔ ¬ p := by
  unfold bI
  split
  · simp [*]
  · simp [*]
theorem bI_1 {p : Prop} [Decidable p] : ¬ bI p = 0 ↔ p := by rw [bI_0]; exact Classical.not_not
theorem bI_congr {p q : Prop} [Decidable p] [Decidable q] (h : p ↔ q) : bI p = bI q := by
  unfold bI
  by_cases hp : p
  · rw [if_pos hp, if_pos (h.mp hp)]
  · rw [if_neg hp, if_neg (fun x => hp (h.mpr x))]
