set_option maxRecDepth 100000 in
theorem lkT_0 : dkT lw_tbl [(80, (Jvm.Cond.initialized "ManyNames")), (10, (Jvm.Cond.initialized "java/lang/String")), (1, (Jvm.Cond.initialized "jdk/internal/util/Preconditions")), (2, (Jvm.Cond.classLink "ManyNamesLaw" (7 : Nat) "ManyNames")), (174, (Jvm.Cond.laysStatic "ManyNames" "RULES_AT_FIRST" "[I")), (201, (Jvm.Cond.stringRef "ManyNames$Tape" (91 : Nat) "met")), (0, (Jvm.Cond.stringRef "ManyNames$Tape" (93 : Nat) "dealt")), (0, (Jvm.Cond.stringRef "ManyNames$Tape" (95 : Nat) "said")), (0, (Jvm.Cond.stringRef "ManyNames$Tape" (97 : Nat) "bought")), (0, (Jvm.Cond.stringRef "ManyNames$Tape" (99 : Nat) "fade")), (0, (Jvm.Cond.stringRef "ManyNames$Tape" (101 : Nat) "word")), (0, (Jvm.Cond.stringRef "ManyNames$Tape" (103 : Nat) "seed")), (0, (Jvm.Cond.stringRef "ManyNames$Tape" (105 : Nat) "pledge")), (0, (Jvm.Cond.stringRef "ManyNames$Tape" (107 : Nat) "fine")), (0, (Jvm.Cond.stringRef "ManyNames$Tape" (109 : Nat) "good")), (0, (Jvm.Cond.stringRef "ManyNames$Tape" (111 : Nat) "")), (13, (Jvm.Cond.laysStatic "java/lang/String" "COMPACT_STRINGS" "Z")), (15, (Jvm.Cond.laysStatic "jdk/internal/util/Preconditions" "SIOOBE_FORMATTER" "Ljava/util/function/BiFunction;")), (40, (Jvm.Cond.laysStatic "ManyNames" "RULES_LEAST" "[I")), (1, (Jvm.Cond.laysStatic "ManyNames" "RULES_MOST" "[I")), (284, (Jvm.Cond.classLink "ManyNamesLaw" (10 : Nat) "ManyNamesModel"))] = true := by decide +kernel
set_option maxRecDepth 100000 in
theorem lkP_0 : dkT (flatC (Jvm.Cond.and given_1 narrow_1)) [(5, Cond.arrayOf (.static "ManyNames" "RULES_AT_FIRST" "[I") .int), (0, Cond.eq (.length (.static "ManyNames" "RULES_AT_FIRST" "[I")) (.int 10)), (0, Cond.eq (.elem (.static "ManyNames" "RULES_AT_FIRST" "[I") (.int 0)) (.int 100)), (0, Cond.eq (.elem (.static "ManyNames" "RULES_AT_FIRST" "[I") (.int 1)) (.int 80)), (0, Cond.eq (.elem (.static "ManyNames" "RULES_AT_FIRST" "[I") (.int 2)) (.int 50)), (0, Cond.eq (.elem (.static "ManyNames" "RULES_AT_FIRST" "[I") (.int 3)) (.int 0)), (0, Cond.eq (.elem (.static "ManyNames" "RULES_AT_FIRST" "[I") (.int 4)) (.int 10)), (0, Cond.eq (.elem (.static "ManyNames" "RULES_AT_FIRST" "[I") (.int 5)) (.int 20)), (0, Cond.eq (.elem (.static "ManyNames" "RULES_AT_FIRST" "[I") (.int 6)) (.int 100)), (0, Cond.eq (.elem (.static "ManyNames" "RULES_AT_FIRST" "[I") (.int 7)) (.int 10)), (0, Cond.eq (.elem (.static "ManyNames" "RULES_AT_FIRST" "[I") (.int 8)) (.int 100)), (0, Cond.eq (.elem (.static "ManyNames" "RULES_AT_FIRST" "[I") (.int 9)) (.int 8)), (0, Cond.eq (.static "java/lang/String" "COMPACT_STRINGS" "Z") (.int 1)), (0, Cond.isRef (.static "jdk/internal/util/Preconditions" "SIOOBE_FORMATTER" "Ljava/util/function/BiFunction;")), (4, Cond.arrayOf (.static "ManyNames" "RULES_LEAST" "[I") .int), (0, Cond.eq (.length (.static "ManyNames" "RULES_LEAST" "[I")) (.int 10)), (0, Cond.eq (.elem (.static "ManyNames" "RULES_LEAST" "[I") (.int 0)) (.int 0)), (0, Cond.eq (.elem (.static "ManyNames" "RULES_LEAST" "[I") (.int 1)) (.int 0)), (0, Cond.eq (.elem (.static "ManyNames" "RULES_LEAST" "[I") (.int 2)) (.int 0)), (0, Cond.eq (.elem (.static "ManyNames" "RULES_LEAST" "[I") (.int 3)) (.int 0)), (0, Cond.eq (.elem (.static "ManyNames" "RULES_LEAST" "[I") (.int 4)) (.int 0)), (0, Cond.eq (.elem (.static "ManyNames" "RULES_LEAST" "[I") (.int 5)) (.int 0)), (0, Cond.eq (.elem (.static "ManyNames" "RULES_LEAST" "[I") (.int 6)) (.int 1)), (0, Cond.eq (.elem (.static "ManyNames" "RULES_LEAST" "[I") (.int 7)) (.int 0)), (0, Cond.eq (.elem (.static "ManyNames" "RULES_LEAST" "[I") (.int 8)) (.int 0)), (0, Cond.eq (.elem (.static "ManyNames" "RULES_LEAST" "[I") (.int 9)) (.int 1)), (1, Cond.arrayOf (.static "ManyNames" "RULES_MOST" "[I") .int), (0, Cond.eq (.length (.static "ManyNames" "RULES_MOST" "[I")) (.int 10)), (0, Cond.eq (.elem (.static "ManyNames" "RULES_MOST" "[I") (.int 0)) (.int 100)), (0, Cond.eq (.elem (.static "ManyNames" "RULES_MOST" "[I") (.int 1)) (.int 100)), (0, Cond.eq (.elem (.static "ManyNames" "RULES_MOST" "[I") (.int 2)) (.int 100)), (0, Cond.eq (.elem (.static "ManyNames" "RULES_MOST" "[I") (.int 3)) (.int 100))] = true := by decide +kernel
set_option maxRecDepth 100000 in
theorem lkP_1 : dkT (flatC (Jvm.Cond.and given_1 narrow_1)) [(42, Cond.eq (.elem (.static "ManyNames" "RULES_MOST" "[I") (.int 4)) (.int 100)), (0, Cond.eq (.elem (.static "ManyNames" "RULES_MOST" "[I") (.int 5)) (.int 100)), (0, Cond.eq (.elem (.static "ManyNames" "RULES_MOST" "[I") (.int 6)) (.int 999)), (0, Cond.eq (.elem (.static "ManyNames" "RULES_MOST" "[I") (.int 7)) (.int 100)), (0, Cond.eq (.elem (.static "ManyNames" "RULES_MOST" "[I") (.int 8)) (.int 999)), (0, Cond.eq (.elem (.static "ManyNames" "RULES_MOST" "[I") (.int 9)) (.int 10)), (0, Cond.exactly (.string "ManyNames$Tape" 91) "java/lang/String"), (0, Cond.eq (.field (.string "ManyNames$Tape" 91) "java/lang/String" "coder" "B") (.int 0)), (0, Cond.arrayOf (.field (.string "ManyNames$Tape" 91) "java/lang/String" "value" "[B") .byte), (0, Cond.eq (.length (.field (.string "ManyNames$Tape" 91) "java/lang/String" "value" "[B")) (.int 3)), (0, Cond.eq (.elem (.field (.string "ManyNames$Tape" 91) "java/lang/String" "value" "[B") (.int 0)) (.int 109)), (0, Cond.eq (.elem (.field (.string "ManyNames$Tape" 91) "java/lang/String" "value" "[B") (.int 1)) (.int 101)), (0, Cond.eq (.elem (.field (.string "ManyNames$Tape" 91) "java/lang/String" "value" "[B") (.int 2)) (.int 116)), (0, Cond.exactly (.string "ManyNames$Tape" 93) "java/lang/String"), (0, Cond.eq (.field (.string "ManyNames$Tape" 93) "java/lang/String" "coder" "B") (.int 0)), (0, Cond.arrayOf (.field (.string "ManyNames$Tape" 93) "java/lang/String" "value" "[B") .byte), (0, Cond.eq (.length (.field (.string "ManyNames$Tape" 93) "java/lang/String" "value" "[B")) (.int 5)), (0, Cond.eq (.elem (.field (.string "ManyNames$Tape" 93) "java/lang/String" "value" "[B") (.int 0)) (.int 100)), (0, Cond.eq (.elem (.field (.string "ManyNames$Tape" 93) "java/lang/String" "value" "[B") (.int 1)) (.int 101)), (0, Cond.eq (.elem (.field (.string "ManyNames$Tape" 93) "java/lang/String" "value" "[B") (.int 2)) (.int 97)), (0, Cond.eq (.elem (.field (.string "ManyNames$Tape" 93) "java/lang/String" "value" "[B") (.int 3)) (.int 108)), (0, Cond.eq (.elem (.field (.string "ManyNames$Tape" 93) "java/lang/String" "value" "[B") (.int 4)) (.int 116)), (1, Cond.exactly (.string "ManyNames$Tape" 95) "java/lang/String"), (0, Cond.eq (.field (.string "ManyNames$Tape" 95) "java/lang/String" "coder" "B") (.int 0)), (0, Cond.arrayOf (.field (.string "ManyNames$Tape" 95) "java/lang/String" "value" "[B") .byte), (0, Cond.eq (.length (.field (.string "ManyNames$Tape" 95) "java/lang/String" "value" "[B")) (.int 4)), (0, Cond.eq (.elem (.field (.string "ManyNames$Tape" 95) "java/lang/String" "value" "[B") (.int 0)) (.int 115)), (0, Cond.eq (.elem (.field (.string "ManyNames$Tape" 95) "java/lang/String" "value" "[B") (.int 1)) (.int 97)), (0, Cond.eq (.elem (.field (.string "ManyNames$Tape" 95) "java/lang/String" "value" "[B") (.int 2)) (.int 105)), (0, Cond.eq (.elem (.field (.string "ManyNames$Tape" 95) "java/lang/String" "value" "[B") (.int 3)) (.int 100)), (2, Cond.exactly (.string "ManyNames$Tape" 97) "java/lang/String"), (0, Cond.eq (.field (.string "ManyNames$Tape" 97) "java/lang/String" "coder" "B") (.int 0))] = true := by decide +kernel
set_option maxRecDepth 100000 in
theorem lkP_2 : dkT (flatC (Jvm.Cond.and given_1 narrow_1)) [(77, Cond.arrayOf (.field (.string "ManyNames$Tape" 97) "java/lang/String" "value" "[B") .byte), (0, Cond.eq (.length (.field (.string "ManyNames$Tape" 97) "java/lang/String" "value" "[B")) (.int 6)), (0, Cond.eq (.elem (.field (.string "ManyNames$Tape" 97) "java/lang/String" "value" "[B") (.int 0)) (.int 98)), (0, Cond.eq (.elem (.field (.string "ManyNames$Tape" 97) "java/lang/String" "value" "[B") (.int 1)) (.int 111)), (0, Cond.eq (.elem (.field (.string "ManyNames$Tape" 97) "java/lang/String" "value" "[B") (.int 2)) (.int 117)), (0, Cond.eq (.elem (.field (.string "ManyNames$Tape" 97) "java/lang/String" "value" "[B") (.int 3)) (.int 103)), (0, Cond.eq (.elem (.field (.string "ManyNames$Tape" 97) "java/lang/String" "value" "[B") (.int 4)) (.int 104)), (0, Cond.eq (.elem (.field (.string "ManyNames$Tape" 97) "java/lang/String" "value" "[B") (.int 5)) (.int 116)), (3, Cond.exactly (.string "ManyNames$Tape" 99) "java/lang/String"), (0, Cond.eq (.field (.string "ManyNames$Tape" 99) "java/lang/String" "coder" "B") (.int 0)), (0, Cond.arrayOf (.field (.string "ManyNames$Tape" 99) "java/lang/String" "value" "[B") .byte), (0, Cond.eq (.length (.field (.string "ManyNames$Tape" 99) "java/lang/String" "value" "[B")) (.int 4)), (0, Cond.eq (.elem (.field (.string "ManyNames$Tape" 99) "java/lang/String" "value" "[B") (.int 0)) (.int 102)), (0, Cond.eq (.elem (.field (.string "ManyNames$Tape" 99) "java/lang/String" "value" "[B") (.int 1)) (.int 97)), (0, Cond.eq (.elem (.field (.string "ManyNames$Tape" 99) "java/lang/String" "value" "[B") (.int 2)) (.int 100)), (0, Cond.eq (.elem (.field (.string "ManyNames$Tape" 99) "java/lang/String" "value" "[B") (.int 3)) (.int 101)), (4, Cond.exactly (.string "ManyNames$Tape" 101) "java/lang/String"), (0, Cond.eq (.field (.string "ManyNames$Tape" 101) "java/lang/String" "coder" "B") (.int 0)), (0, Cond.arrayOf (.field (.string "ManyNames$Tape" 101) "java/lang/String" "value" "[B") .byte), (0, Cond.eq (.length (.field (.string "ManyNames$Tape" 101) "java/lang/String" "value" "[B")) (.int 4)), (0, Cond.eq (.elem (.field (.string "ManyNames$Tape" 101) "java/lang/String" "value" "[B") (.int 0)) (.int 119)), (0, Cond.eq (.elem (.field (.string "ManyNames$Tape" 101) "java/lang/String" "value" "[B") (.int 1)) (.int 111)), (0, Cond.eq (.elem (.field (.string "ManyNames$Tape" 101) "java/lang/String" "value" "[B") (.int 2)) (.int 114)), (0, Cond.eq (.elem (.field (.string "ManyNames$Tape" 101) "java/lang/String" "value" "[B") (.int 3)) (.int 100)), (5, Cond.exactly (.string "ManyNames$Tape" 103) "java/lang/String"), (0, Cond.eq (.field (.string "ManyNames$Tape" 103) "java/lang/String" "coder" "B") (.int 0)), (0, Cond.arrayOf (.field (.string "ManyNames$Tape" 103) "java/lang/String" "value" "[B") .byte), (0, Cond.eq (.length (.field (.string "ManyNames$Tape" 103) "java/lang/String" "value" "[B")) (.int 4)), (0, Cond.eq (.elem (.field (.string "ManyNames$Tape" 103) "java/lang/String" "value" "[B") (.int 0)) (.int 115)), (0, Cond.eq (.elem (.field (.string "ManyNames$Tape" 103) "java/lang/String" "value" "[B") (.int 1)) (.int 101)), (0, Cond.eq (.elem (.field (.string "ManyNames$Tape" 103) "java/lang/String" "value" "[B") (.int 2)) (.int 101)), (0, Cond.eq (.elem (.field (.string "ManyNames$Tape" 103) "java/lang/String" "value" "[B") (.int 3)) (.int 100))] = true := by decide +kernel
set_option maxRecDepth 100000 in
theorem lkP_3 : dkT (flatC (Jvm.Cond.and given_1 narrow_1)) [(127, Cond.exactly (.string "ManyNames$Tape" 105) "java/lang/String"), (0, Cond.eq (.field (.string "ManyNames$Tape" 105) "java/lang/String" "coder" "B") (.int 0)), (0, Cond.arrayOf (.field (.string "ManyNames$Tape" 105) "java/lang/String" "value" "[B") .byte), (0, Cond.eq (.length (.field (.string "ManyNames$Tape" 105) "java/lang/String" "value" "[B")) (.int 6)), (0, Cond.eq (.elem (.field (.string "ManyNames$Tape" 105) "java/lang/String" "value" "[B") (.int 0)) (.int 112)), (0, Cond.eq (.elem (.field (.string "ManyNames$Tape" 105) "java/lang/String" "value" "[B") (.int 1)) (.int 108)), (0, Cond.eq (.elem (.field (.string "ManyNames$Tape" 105) "java/lang/String" "value" "[B") (.int 2)) (.int 101)), (0, Cond.eq (.elem (.field (.string "ManyNames$Tape" 105) "java/lang/String" "value" "[B") (.int 3)) (.int 100)), (0, Cond.eq (.elem (.field (.string "ManyNames$Tape" 105) "java/lang/String" "value" "[B") (.int 4)) (.int 103)), (0, Cond.eq (.elem (.field (.string "ManyNames$Tape" 105) "java/lang/String" "value" "[B") (.int 5)) (.int 101)), (7, Cond.exactly (.string "ManyNames$Tape" 107) "java/lang/String"), (0, Cond.eq (.field (.string "ManyNames$Tape" 107) "java/lang/String" "coder" "B") (.int 0)), (0, Cond.arrayOf (.field (.string "ManyNames$Tape" 107) "java/lang/String" "value" "[B") .byte), (0, Cond.eq (.length (.field (.string "ManyNames$Tape" 107) "java/lang/String" "value" "[B")) (.int 4)), (0, Cond.eq (.elem (.field (.string "ManyNames$Tape" 107) "java/lang/String" "value" "[B") (.int 0)) (.int 102)), (0, Cond.eq (.elem (.field (.string "ManyNames$Tape" 107) "java/lang/String" "value" "[B") (.int 1)) (.int 105)), (0, Cond.eq (.elem (.field (.string "ManyNames$Tape" 107) "java/lang/String" "value" "[B") (.int 2)) (.int 110)), (0, Cond.eq (.elem (.field (.string "ManyNames$Tape" 107) "java/lang/String" "value" "[B") (.int 3)) (.int 101)), (8, Cond.exactly (.string "ManyNames$Tape" 109) "java/lang/String"), (0, Cond.eq (.field (.string "ManyNames$Tape" 109) "java/lang/String" "coder" "B") (.int 0)), (0, Cond.arrayOf (.field (.string "ManyNames$Tape" 109) "java/lang/String" "value" "[B") .byte), (0, Cond.eq (.length (.field (.string "ManyNames$Tape" 109) "java/lang/String" "value" "[B")) (.int 4)), (0, Cond.eq (.elem (.field (.string "ManyNames$Tape" 109) "java/lang/String" "value" "[B") (.int 0)) (.int 103)), (0, Cond.eq (.elem (.field (.string "ManyNames$Tape" 109) "java/lang/String" "value" "[B") (.int 1)) (.int 111)), (0, Cond.eq (.elem (.field (.string "ManyNames$Tape" 109) "java/lang/String" "value" "[B") (.int 2)) (.int 111)), (0, Cond.eq (.elem (.field (.string "ManyNames$Tape" 109) "java/lang/String" "value" "[B") (.int 3)) (.int 100)), (9, Cond.exactly (.string "ManyNames$Tape" 111) "java/lang/String"), (0, Cond.eq (.field (.string "ManyNames$Tape" 111) "java/lang/String" "coder" "B") (.int 0)), (0, Cond.arrayOf (.field (.string "ManyNames$Tape" 111) "java/lang/String" "value" "[B") .byte), (0, Cond.eq (.length (.field (.string "ManyNames$Tape" 111) "java/lang/String" "value" "[B")) (.int 0))] = true := by decide +kernel
/-- the script, which no cell of the world is -/
def SXP (k : KT) (b Ls : Nat) (xs : Nat → Int32) : Prop := va_X b Ls xs k.2.2.1 k.2.2.1.heap ∧ b < k.2.2.1.heap.size ∧ ¬ k.2.2.2.2.2.2.2.2 b
section LWR
variable {x : GT} {Q : State → Prop} {k : KT} {ws : va_W} {kc kn pc : Nat} {L : List (Option Value)} {st : List Value}
theorem gw_sld (K : GOK x k) {b Ls : Nat} {xs : Nat → Int32} (S : SXP k b Ls xs) {i : Int32} (hd : decode x.2.2.1 pc = .ok (.iaload, 1)) (hin : vp_in i Ls) (n : GW x Q k ws kc kn (pc + 1) L (.int (xs i.toNatClampNeg) :: st)) : GW x Q k ws kc kn pc L (.int i :: .ref b :: st) := by
  obtain ⟨p, e, s, m, args, below, meth, c, A⟩ := k
  exact fun H lo la a1 a2 a3 a4 => va_sld K.1 K.2.1 S.1 S.2.1 S.2.2 a4 hin hd (n H lo la a1 a2 a3 a4)
theorem gw_slen (K : GOK x k) {b Ls : Nat} {xs : Nat → Int32} (S : SXP k b Ls xs) (hd : decode x.2.2.1 pc = .ok (.arraylength, 1)) (n : GW x Q k ws kc kn (pc + 1) L (.int (nI Ls) :: st)) : GW x Q k ws kc kn pc L (.ref b :: st) := by
  obtain ⟨p, e, s, m, args, below, meth, c, A⟩ := k
  exact fun H lo la a1 a2 a3 a4 => va_slen K.1 K.2.1 S.1 S.2.1 S.2.2 a4 hd (n H lo la a1 a2 a3 a4)
theorem gw_tsw (K : GOK x k) {dflt lo hi : Int} {offs : Array Int} {len tgt : Nat} {x1 : Int32} (hd : decode x.2.2.1 pc = .ok (.tableswitch dflt lo hi offs, len)) (ht : (pc : Int) + dflt = (tgt : Int)) (hsz : lo + offs.size = hi + 1) (hp : aw_swp pc offs.toList = true)
    (hs : aw_sw pc x1 (fun t => GW x Q k ws kc kn t L st) lo offs.toList) (hdef : (x1.toInt < lo ∨ hi < x1.toInt) → GW x Q k ws kc kn tgt L st) : GW x Q k ws kc kn pc L (.int x1 :: st) := by
  by_cases hx : x1.toInt < lo ∨ hi < x1.toInt
  · have hn := hdef hx
    obtain ⟨p, e, s, m, args, below, meth, c, A⟩ := k
    exact fun H l1 la a1 a2 a3 a4 => lv_tableOut K.1 K.2.1 hd hx ht (hn H l1 la a1 a2 a3 a4)
  · have h1 : ¬ x1.toInt < lo := fun q => hx (Or.inl q)
    have h2 : ¬ hi < x1.toInt := fun q => hx (Or.inr q)
    have hlt : (x1.toInt - lo).toNat < offs.size := by omega
    obtain ⟨hF, h0⟩ := aw_sw_at offs.toList lo (x1.toInt - lo).toNat offs[(x1.toInt - lo).toNat] hs hp (by rw [Array.getElem?_toList]; exact Array.getElem?_eq_getElem hlt) (by omega)
    obtain ⟨p, e, s, m, args, below, meth, c, A⟩ := k
    exact fun H l1 la a1 a2 a3 a4 => lv_tableIn K.1 K.2.1 hd h1 h2 (Array.getElem?_eq_getElem hlt) (by omega) (hF H l1 la a1 a2 a3 a4)
end LWR
theorem clL_7 : Cond.classLink RL 7 RX6 ∈ aw_tb := aw_me (dkT_at _ _ lkT_0 3 _ rfl) rfl
theorem clL_10 : Cond.classLink RL 10 RX7 ∈ aw_tb := aw_me (dkT_at _ _ lkT_0 20 _ rfl) rfl
theorem st0 {args : Array Value} {s : State} {A : Nat → Prop} (hgv : (Jvm.Cond.and given_1 narrow_1).before args s = true) (hts : ∀ w ∈ lw_tbl, w.before args s = true) (hA : ∀ a : Nat, a < s.heap.size → ¬ A a) : ∃ t : Nat, aw_Z1 "RULES_AT_FIRST" aw_r0 t A s s.heap := by
  have hs := flat_of_before _ hgv
  have harr : (Cond.arrayOf (.static "ManyNames" "RULES_AT_FIRST" "[I") .int).before args s = true := hs _ (dkT_at _ _ lkP_0 0 _ rfl)
  have hlen := va_eqt (hs (Cond.eq (.length (.static "ManyNames" "RULES_AT_FIRST" "[I")) (.int 10)) (dkT_at _ _ lkP_0 1 _ rfl))
  have hel : ∀ j : Nat, j < 10 → (Term.elem (.static "ManyNames" "RULES_AT_FIRST" "[I") (.int (Int32.ofNat j))).eval args s none [] s = some (.int (aw_r0 j)) := by
    intro j hj
    match j, hj with
    | 0, _ => exact va_eqt (hs (Cond.eq (.elem (.static "ManyNames" "RULES_AT_FIRST" "[I") (.int 0)) (.int 100)) (dkT_at _ _ lkP_0 2 _ rfl))
    | 1, _ => exact va_eqt (hs (Cond.eq (.elem (.static "ManyNames" "RULES_AT_FIRST" "[I") (.int 1)) (.int 80)) (dkT_at _ _ lkP_0 3 _ rfl))
    | 2, _ => exact va_eqt (hs (Cond.eq (.elem (.static "ManyNames" "RULES_AT_FIRST" "[I") (.int 2)) (.int 50)) (dkT_at _ _ lkP_0 4 _ rfl))
    | 3, _ => exact va_eqt (hs (Cond.eq (.elem (.static "ManyNames" "RULES_AT_FIRST" "[I") (.int 3)) (.int 0)) (dkT_at _ _ lkP_0 5 _ rfl))
    | 4, _ => exact va_eqt (hs (Cond.eq (.elem (.static "ManyNames" "RULES_AT_FIRST" "[I") (.int 4)) (.int 10)) (dkT_at _ _ lkP_0 6 _ rfl))
    | 5, _ => exact va_eqt (hs (Cond.eq (.elem (.static "ManyNames" "RULES_AT_FIRST" "[I") (.int 5)) (.int 20)) (dkT_at _ _ lkP_0 7 _ rfl))
    | 6, _ => exact va_eqt (hs (Cond.eq (.elem (.static "ManyNames" "RULES_AT_FIRST" "[I") (.int 6)) (.int 100)) (dkT_at _ _ lkP_0 8 _ rfl))
    | 7, _ => exact va_eqt (hs (Cond.eq (.elem (.static "ManyNames" "RULES_AT_FIRST" "[I") (.int 7)) (.int 10)) (dkT_at _ _ lkP_0 9 _ rfl))
    | 8, _ => exact va_eqt (hs (Cond.eq (.elem (.static "ManyNames" "RULES_AT_FIRST" "[I") (.int 8)) (.int 100)) (dkT_at _ _ lkP_0 10 _ rfl))
    | 9, _ => exact va_eqt (hs (Cond.eq (.elem (.static "ManyNames" "RULES_AT_FIRST" "[I") (.int 9)) (.int 8)) (dkT_at _ _ lkP_0 11 _ rfl))
  obtain ⟨t, cell, ht, hat, hv⟩ := Term.length_spec hlen
  obtain ⟨hcell, hkn, -, -⟩ := State.arrayAt?_spec hat
  obtain ⟨hof, -⟩ := Cond.arrayOf_spec harr ht hcell
  have hlt : t < s.heap.size := (Array.getElem?_eq_some_iff.mp hcell).1
  have hsz : cell.slots.size = 10 := by
    have h31 : cell.slots.size < 2 ^ 31 := by
      simp only [Term.eval, Option.bind_eq_bind] at hlen
      have ht' := ht
      simp only [Term.eval, Option.bind_eq_bind] at ht'
      simp only [ht', hat, Option.bind_some] at hlen
      by_cases hq : cell.slots.size < 2147483648
      · exact hq
      · simp [hq] at hlen
    have e := Value.int.inj hv
    have e2 : nI cell.slots.size = nI 10 := e.symm
    exact (nI_eq h31 (by decide)).mp e2
  refine ⟨t, va_Zof (hts (Jvm.Cond.laysStatic "ManyNames" "RULES_AT_FIRST" "[I") (dkT_at _ _ lkT_0 4 _ rfl)) (hts (Jvm.Cond.initialized "ManyNames") (dkT_at _ _ lkT_0 0 _ rfl)) ht hA, ⟨cell, hcell, hof, hkn, hsz, fun j hj => ?_⟩, hlt, hA t hlt⟩
  obtain ⟨a, i, cell2, h1, h2, h3, h4, h5⟩ := Term.elem_spec (hel j hj)
  cases ht.symm.trans h1
  cases hat.symm.trans h3
  have e : (Term.int (Int32.ofNat j)).eval args s none [] s = some (.int (Int32.ofNat j)) := rfl
  cases h2.symm.trans e
  have hc : (Int32.ofNat j).toNatClampNeg = j := nI_clamp (n := j) (by omega)
  rw [hc] at h5
  exact h5
theorem st1 {args : Array Value} {s : State} {A : Nat → Prop} (hgv : (Jvm.Cond.and given_1 narrow_1).before args s = true) (hts : ∀ w ∈ lw_tbl, w.before args s = true) (hA : ∀ a : Nat, a < s.heap.size → ¬ A a) : ∃ t : Nat, aw_Z1 "RULES_LEAST" aw_r1 t A s s.heap := by
  have hs := flat_of_before _ hgv
  have harr : (Cond.arrayOf (.static "ManyNames" "RULES_LEAST" "[I") .int).before args s = true := hs _ (dkT_at _ _ lkP_0 14 _ rfl)
  have hlen := va_eqt (hs (Cond.eq (.length (.static "ManyNames" "RULES_LEAST" "[I")) (.int 10)) (dkT_at _ _ lkP_0 15 _ rfl))
  have hel : ∀ j : Nat, j < 10 → (Term.elem (.static "ManyNames" "RULES_LEAST" "[I") (.int (Int32.ofNat j))).eval args s none [] s = some (.int (aw_r1 j)) := by
    intro j hj
    match j, hj with
    | 0, _ => exact va_eqt (hs (Cond.eq (.elem (.static "ManyNames" "RULES_LEAST" "[I") (.int 0)) (.int 0)) (dkT_at _ _ lkP_0 16 _ rfl))
    | 1, _ => exact va_eqt (hs (Cond.eq (.elem (.static "ManyNames" "RULES_LEAST" "[I") (.int 1)) (.int 0)) (dkT_at _ _ lkP_0 17 _ rfl))
    | 2, _ => exact va_eqt (hs (Cond.eq (.elem (.static "ManyNames" "RULES_LEAST" "[I") (.int 2)) (.int 0)) (dkT_at _ _ lkP_0 18 _ rfl))
    | 3, _ => exact va_eqt (hs (Cond.eq (.elem (.static "ManyNames" "RULES_LEAST" "[I") (.int 3)) (.int 0)) (dkT_at _ _ lkP_0 19 _ rfl))
    | 4, _ => exact va_eqt (hs (Cond.eq (.elem (.static "ManyNames" "RULES_LEAST" "[I") (.int 4)) (.int 0)) (dkT_at _ _ lkP_0 20 _ rfl))
    | 5, _ => exact va_eqt (hs (Cond.eq (.elem (.static "ManyNames" "RULES_LEAST" "[I") (.int 5)) (.int 0)) (dkT_at _ _ lkP_0 21 _ rfl))
    | 6, _ => exact va_eqt (hs (Cond.eq (.elem (.static "ManyNames" "RULES_LEAST" "[I") (.int 6)) (.int 1)) (dkT_at _ _ lkP_0 22 _ rfl))
    | 7, _ => exact va_eqt (hs (Cond.eq (.elem (.static "ManyNames" "RULES_LEAST" "[I") (.int 7)) (.int 0)) (dkT_at _ _ lkP_0 23 _ rfl))
    | 8, _ => exact va_eqt (hs (Cond.eq (.elem (.static "ManyNames" "RULES_LEAST" "[I") (.int 8)) (.int 0)) (dkT_at _ _ lkP_0 24 _ rfl))
    | 9, _ => exact va_eqt (hs (Cond.eq (.elem (.static "ManyNames" "RULES_LEAST" "[I") (.int 9)) (.int 1)) (dkT_at _ _ lkP_0 25 _ rfl))
  obtain ⟨t, cell, ht, hat, hv⟩ := Term.length_spec hlen
  obtain ⟨hcell, hkn, -, -⟩ := State.arrayAt?_spec hat
  obtain ⟨hof, -⟩ := Cond.arrayOf_spec harr ht hcell
  have hlt : t < s.heap.size := (Array.getElem?_eq_some_iff.mp hcell).1
  have hsz : cell.slots.size = 10 := by
    have h31 : cell.slots.size < 2 ^ 31 := by
      simp only [Term.eval, Option.bind_eq_bind] at hlen
      have ht' := ht
      simp only [Term.eval, Option.bind_eq_bind] at ht'
      simp only [ht', hat, Option.bind_some] at hlen
      by_cases hq : cell.slots.size < 2147483648
      · exact hq
      · simp [hq] at hlen
    have e := Value.int.inj hv
    have e2 : nI cell.slots.size = nI 10 := e.symm
    exact (nI_eq h31 (by decide)).mp e2
  refine ⟨t, va_Zof (hts (Jvm.Cond.laysStatic "ManyNames" "RULES_LEAST" "[I") (dkT_at _ _ lkT_0 18 _ rfl)) (hts (Jvm.Cond.initialized "ManyNames") (dkT_at _ _ lkT_0 0 _ rfl)) ht hA, ⟨cell, hcell, hof, hkn, hsz, fun j hj => ?_⟩, hlt, hA t hlt⟩
  obtain ⟨a, i, cell2, h1, h2, h3, h4, h5⟩ := Term.elem_spec (hel j hj)
  cases ht.symm.trans h1
  cases hat.symm.trans h3
  have e : (Term.int (Int32.ofNat j)).eval args s none [] s = some (.int (Int32.ofNat j)) := rfl
  cases h2.symm.trans e
  have hc : (Int32.ofNat j).toNatClampNeg = j := nI_clamp (n := j) (by omega)
  rw [hc] at h5
  exact h5
theorem st2 {args : Array Value} {s : State} {A : Nat → Prop} (hgv : (Jvm.Cond.and given_1 narrow_1).before args s = true) (hts : ∀ w ∈ lw_tbl, w.before args s = true) (hA : ∀ a : Nat, a < s.heap.size → ¬ A a) : ∃ t : Nat, aw_Z1 "RULES_MOST" aw_r2 t A s s.heap := by
  have hs := flat_of_before _ hgv
  have harr : (Cond.arrayOf (.static "ManyNames" "RULES_MOST" "[I") .int).before args s = true := hs _ (dkT_at _ _ lkP_0 26 _ rfl)
  have hlen := va_eqt (hs (Cond.eq (.length (.static "ManyNames" "RULES_MOST" "[I")) (.int 10)) (dkT_at _ _ lkP_0 27 _ rfl))
  have hel : ∀ j : Nat, j < 10 → (Term.elem (.static "ManyNames" "RULES_MOST" "[I") (.int (Int32.ofNat j))).eval args s none [] s = some (.int (aw_r2 j)) := by
    intro j hj
    match j, hj with
    | 0, _ => exact va_eqt (hs (Cond.eq (.elem (.static "ManyNames" "RULES_MOST" "[I") (.int 0)) (.int 100)) (dkT_at _ _ lkP_0 28 _ rfl))
    | 1, _ => exact va_eqt (hs (Cond.eq (.elem (.static "ManyNames" "RULES_MOST" "[I") (.int 1)) (.int 100)) (dkT_at _ _ lkP_0 29 _ rfl))
    | 2, _ => exact va_eqt (hs (Cond.eq (.elem (.static "ManyNames" "RULES_MOST" "[I") (.int 2)) (.int 100)) (dkT_at _ _ lkP_0 30 _ rfl))
    | 3, _ => exact va_eqt (hs (Cond.eq (.elem (.static "ManyNames" "RULES_MOST" "[I") (.int 3)) (.int 100)) (dkT_at _ _ lkP_0 31 _ rfl))
    | 4, _ => exact va_eqt (hs (Cond.eq (.elem (.static "ManyNames" "RULES_MOST" "[I") (.int 4)) (.int 100)) (dkT_at _ _ lkP_1 0 _ rfl))
    | 5, _ => exact va_eqt (hs (Cond.eq (.elem (.static "ManyNames" "RULES_MOST" "[I") (.int 5)) (.int 100)) (dkT_at _ _ lkP_1 1 _ rfl))
    | 6, _ => exact va_eqt (hs (Cond.eq (.elem (.static "ManyNames" "RULES_MOST" "[I") (.int 6)) (.int 999)) (dkT_at _ _ lkP_1 2 _ rfl))
    | 7, _ => exact va_eqt (hs (Cond.eq (.elem (.static "ManyNames" "RULES_MOST" "[I") (.int 7)) (.int 100)) (dkT_at _ _ lkP_1 3 _ rfl))
    | 8, _ => exact va_eqt (hs (Cond.eq (.elem (.static "ManyNames" "RULES_MOST" "[I") (.int 8)) (.int 999)) (dkT_at _ _ lkP_1 4 _ rfl))
    | 9, _ => exact va_eqt (hs (Cond.eq (.elem (.static "ManyNames" "RULES_MOST" "[I") (.int 9)) (.int 10)) (dkT_at _ _ lkP_1 5 _ rfl))
  obtain ⟨t, cell, ht, hat, hv⟩ := Term.length_spec hlen
  obtain ⟨hcell, hkn, -, -⟩ := State.arrayAt?_spec hat
  obtain ⟨hof, -⟩ := Cond.arrayOf_spec harr ht hcell
  have hlt : t < s.heap.size := (Array.getElem?_eq_some_iff.mp hcell).1
  have hsz : cell.slots.size = 10 := by
    have h31 : cell.slots.size < 2 ^ 31 := by
      simp only [Term.eval, Option.bind_eq_bind] at hlen
      have ht' := ht
      simp only [Term.eval, Option.bind_eq_bind] at ht'
      simp only [ht', hat, Option.bind_some] at hlen
      by_cases hq : cell.slots.size < 2147483648
      · exact hq
      · simp [hq] at hlen
    have e := Value.int.inj hv
    have e2 : nI cell.slots.size = nI 10 := e.symm
    exact (nI_eq h31 (by decide)).mp e2
  refine ⟨t, va_Zof (hts (Jvm.Cond.laysStatic "ManyNames" "RULES_MOST" "[I") (dkT_at _ _ lkT_0 19 _ rfl)) (hts (Jvm.Cond.initialized "ManyNames") (dkT_at _ _ lkT_0 0 _ rfl)) ht hA, ⟨cell, hcell, hof, hkn, hsz, fun j hj => ?_⟩, hlt, hA t hlt⟩
  obtain ⟨a, i, cell2, h1, h2, h3, h4, h5⟩ := Term.elem_spec (hel j hj)
  cases ht.symm.trans h1
  cases hat.symm.trans h3
  have e : (Term.int (Int32.ofNat j)).eval args s none [] s = some (.int (Int32.ofNat j)) := rfl
  cases h2.symm.trans e
  have hc : (Int32.ofNat j).toNatClampNeg = j := nI_clamp (n := j) (by omega)
  rw [hc] at h5
  exact h5
def tmS (i : Nat) : Term := .string "ManyNames$Tape" (91 + 2 * i)
theorem lt11 {P : Nat → Prop} (h0 : P 0) (h1 : P 1) (h2 : P 2) (h3 : P 3) (h4 : P 4) (h5 : P 5) (h6 : P 6) (h7 : P 7) (h8 : P 8) (h9 : P 9) (h10 : P 10) : ∀ i, i < 11 → P i := fun i hi => by
  match i, hi with
  | 0, _ => exact h0
  | 1, _ => exact h1
  | 2, _ => exact h2
  | 3, _ => exact h3
  | 4, _ => exact h4
  | 5, _ => exact h5
  | 6, _ => exact h6
  | 7, _ => exact h7
  | 8, _ => exact h8
  | 9, _ => exact h9
  | 10, _ => exact h10
set_option maxRecDepth 100000 in
theorem law_T {args : Array Value} {s : State} {A : Nat → Prop} (hgv : (Jvm.Cond.and given_1 narrow_1).before args s = true) (hA : ∀ a : Nat, a < s.heap.size → ¬ A a) : ∀ i, i < 11 → ∃ q : Nat × Nat, (tmS i).eval args s none [] s = some (.ref q.1) ∧ va_O "java/lang/String" q.1 A s s.heap ∧ va_OF "java/lang/String" "coder" "B" (.int 0) q.1 A s s.heap ∧ va_OF "java/lang/String" "value" "[B" (.ref q.2) q.1 A s s.heap ∧ va_T .byte q.2 (aw_tl i) (fun j => .int (aw_tc i j)) A s s.heap := by
  have hs := flat_of_before _ hgv
  have key : ∀ i, i < 11 → (Cond.exactly (tmS i) "java/lang/String").before args s = true → (Cond.eq (.field (tmS i) "java/lang/String" "coder" "B") (.int 0)).before args s = true → (Cond.arrayOf (.field (tmS i) "java/lang/String" "value" "[B") .byte).before args s = true → (Cond.eq (.length (.field (tmS i) "java/lang/String" "value" "[B")) (.int (Int32.ofNat (aw_tl i)))).before args s = true → (∀ j, j < aw_tl i → (Cond.eq (.elem (.field (tmS i) "java/lang/String" "value" "[B") (.int (Int32.ofNat j))) (.int (aw_tc i j))).before args s = true) → ∃ q : Nat × Nat, (tmS i).eval args s none [] s = some (.ref q.1) ∧ va_O "java/lang/String" q.1 A s s.heap ∧ va_OF "java/lang/String" "coder" "B" (.int 0) q.1 A s s.heap ∧ va_OF "java/lang/String" "value" "[B" (.ref q.2) q.1 A s s.heap ∧ va_T .byte q.2 (aw_tl i) (fun j => .int (aw_tc i j)) A s s.heap := by
    intro i hi hex hco har hle hel
    have h31 : aw_tl i < 2 ^ 31 := by
      have := tl_6 hi
      omega
    obtain ⟨a, c, cA, kA, q1, q2, q3, q4, q5, q6, -⟩ := Cond.exactly_spec (args := args) (first := s) (o := none) (s := s) (idx := []) (t := tmS i) (cls := "java/lang/String") hex
    obtain ⟨t, ht, hT⟩ := va_Tof (f := fun j => .int (aw_tc i j)) (A := A) h31 har (va_eqt hle) (fun j hj => va_eqt (hel j hj)) hA
    exact ⟨(a, t), q1, ⟨cA, q3, q5, by rw [q6]; exact q2, hA a (Array.getElem?_eq_some_iff.mp q3).1⟩, vk_OFof q1 (va_eqt hco) hA, vk_OFof q1 ht hA, hT⟩
  refine lt11 (P := fun i => ∃ q : Nat × Nat, (tmS i).eval args s none [] s = some (.ref q.1) ∧ va_O "java/lang/String" q.1 A s s.heap ∧ va_OF "java/lang/String" "coder" "B" (.int 0) q.1 A s s.heap ∧ va_OF "java/lang/String" "value" "[B" (.ref q.2) q.1 A s s.heap ∧ va_T .byte q.2 (aw_tl i) (fun j => .int (aw_tc i j)) A s s.heap) ?_ ?_ ?_ ?_ ?_ ?_ ?_ ?_ ?_ ?_ ?_
  · refine key 0 (by decide) (hs (Cond.exactly (.string "ManyNames$Tape" 91) "java/lang/String") (dkT_at _ _ lkP_1 6 _ rfl)) (hs (Cond.eq (.field (.string "ManyNames$Tape" 91) "java/lang/String" "coder" "B") (.int 0)) (dkT_at _ _ lkP_1 7 _ rfl)) (hs (Cond.arrayOf (.field (.string "ManyNames$Tape" 91) "java/lang/String" "value" "[B") .byte) (dkT_at _ _ lkP_1 8 _ rfl)) (hs (Cond.eq (.length (.field (.string "ManyNames$Tape" 91) "java/lang/String" "value" "[B")) (.int 3)) (dkT_at _ _ lkP_1 9 _ rfl)) (fun j hj => ?_)
    match j, hj with
    | 0, _ => exact hs (Cond.eq (.elem (.field (.string "ManyNames$Tape" 91) "java/lang/String" "value" "[B") (.int 0)) (.int 109)) (dkT_at _ _ lkP_1 10 _ rfl)
    | 1, _ => exact hs (Cond.eq (.elem (.field (.string "ManyNames$Tape" 91) "java/lang/String" "value" "[B") (.int 1)) (.int 101)) (dkT_at _ _ lkP_1 11 _ rfl)
    | 2, _ => exact hs (Cond.eq (.elem (.field (.string "ManyNames$Tape" 91) "java/lang/String" "value" "[B") (.int 2)) (.int 116)) (dkT_at _ _ lkP_1 12 _ rfl)
  · refine key 1 (by decide) (hs (Cond.exactly (.string "ManyNames$Tape" 93) "java/lang/String") (dkT_at _ _ lkP_1 13 _ rfl)) (hs (Cond.eq (.field (.string "ManyNames$Tape" 93) "java/lang/String" "coder" "B") (.int 0)) (dkT_at _ _ lkP_1 14 _ rfl)) (hs (Cond.arrayOf (.field (.string "ManyNames$Tape" 93) "java/lang/String" "value" "[B") .byte) (dkT_at _ _ lkP_1 15 _ rfl)) (hs (Cond.eq (.length (.field (.string "ManyNames$Tape" 93) "java/lang/String" "value" "[B")) (.int 5)) (dkT_at _ _ lkP_1 16 _ rfl)) (fun j hj => ?_)
    match j, hj with
    | 0, _ => exact hs (Cond.eq (.elem (.field (.string "ManyNames$Tape" 93) "java/lang/String" "value" "[B") (.int 0)) (.int 100)) (dkT_at _ _ lkP_1 17 _ rfl)
    | 1, _ => exact hs (Cond.eq (.elem (.field (.string "ManyNames$Tape" 93) "java/lang/String" "value" "[B") (.int 1)) (.int 101)) (dkT_at _ _ lkP_1 18 _ rfl)
    | 2, _ => exact hs (Cond.eq (.elem (.field (.string "ManyNames$Tape" 93) "java/lang/String" "value" "[B") (.int 2)) (.int 97)) (dkT_at _ _ lkP_1 19 _ rfl)
    | 3, _ => exact hs (Cond.eq (.elem (.field (.string "ManyNames$Tape" 93) "java/lang/String" "value" "[B") (.int 3)) (.int 108)) (dkT_at _ _ lkP_1 20 _ rfl)
    | 4, _ => exact hs (Cond.eq (.elem (.field (.string "ManyNames$Tape" 93) "java/lang/String" "value" "[B") (.int 4)) (.int 116)) (dkT_at _ _ lkP_1 21 _ rfl)
  · refine key 2 (by decide) (hs (Cond.exactly (.string "ManyNames$Tape" 95) "java/lang/String") (dkT_at _ _ lkP_1 22 _ rfl)) (hs (Cond.eq (.field (.string "ManyNames$Tape" 95) "java/lang/String" "coder" "B") (.int 0)) (dkT_at _ _ lkP_1 23 _ rfl)) (hs (Cond.arrayOf (.field (.string "ManyNames$Tape" 95) "java/lang/String" "value" "[B") .byte) (dkT_at _ _ lkP_1 24 _ rfl)) (hs (Cond.eq (.length (.field (.string "ManyNames$Tape" 95) "java/lang/String" "value" "[B")) (.int 4)) (dkT_at _ _ lkP_1 25 _ rfl)) (fun j hj => ?_)
    match j, hj with
    | 0, _ => exact hs (Cond.eq (.elem (.field (.string "ManyNames$Tape" 95) "java/lang/String" "value" "[B") (.int 0)) (.int 115)) (dkT_at _ _ lkP_1 26 _ rfl)
    | 1, _ => exact hs (Cond.eq (.elem (.field (.string "ManyNames$Tape" 95) "java/lang/String" "value" "[B") (.int 1)) (.int 97)) (dkT_at _ _ lkP_1 27 _ rfl)
    | 2, _ => exact hs (Cond.eq (.elem (.field (.string "ManyNames$Tape" 95) "java/lang/String" "value" "[B") (.int 2)) (.int 105)) (dkT_at _ _ lkP_1 28 _ rfl)
    | 3, _ => exact hs (Cond.eq (.elem (.field (.string "ManyNames$Tape" 95) "java/lang/String" "value" "[B") (.int 3)) (.int 100)) (dkT_at _ _ lkP_1 29 _ rfl)
  · refine key 3 (by decide) (hs (Cond.exactly (.string "ManyNames$Tape" 97) "java/lang/String") (dkT_at _ _ lkP_1 30 _ rfl)) (hs (Cond.eq (.field (.string "ManyNames$Tape" 97) "java/lang/String" "coder" "B") (.int 0)) (dkT_at _ _ lkP_1 31 _ rfl)) (hs (Cond.arrayOf (.field (.string "ManyNames$Tape" 97) "java/lang/String" "value" "[B") .byte) (dkT_at _ _ lkP_2 0 _ rfl)) (hs (Cond.eq (.length (.field (.string "ManyNames$Tape" 97) "java/lang/String" "value" "[B")) (.int 6)) (dkT_at _ _ lkP_2 1 _ rfl)) (fun j hj => ?_)
    match j, hj with
    | 0, _ => exact hs (Cond.eq (.elem (.field (.string "ManyNames$Tape" 97) "java/lang/String" "value" "[B") (.int 0)) (.int 98)) (dkT_at _ _ lkP_2 2 _ rfl)
    | 1, _ => exact hs (Cond.eq (.elem (.field (.string "ManyNames$Tape" 97) "java/lang/String" "value" "[B") (.int 1)) (.int 111)) (dkT_at _ _ lkP_2 3 _ rfl)
    | 2, _ => exact hs (Cond.eq (.elem (.field (.string "ManyNames$Tape" 97) "java/lang/String" "value" "[B") (.int 2)) (.int 117)) (dkT_at _ _ lkP_2 4 _ rfl)
    | 3, _ => exact hs (Cond.eq (.elem (.field (.string "ManyNames$Tape" 97) "java/lang/String" "value" "[B") (.int 3)) (.int 103)) (dkT_at _ _ lkP_2 5 _ rfl)
    | 4, _ => exact hs (Cond.eq (.elem (.field (.string "ManyNames$Tape" 97) "java/lang/String" "value" "[B") (.int 4)) (.int 104)) (dkT_at _ _ lkP_2 6 _ rfl)
    | 5, _ => exact hs (Cond.eq (.elem (.field (.string "ManyNames$Tape" 97) "java/lang/String" "value" "[B") (.int 5)) (.int 116)) (dkT_at _ _ lkP_2 7 _ rfl)
  · refine key 4 (by decide) (hs (Cond.exactly (.string "ManyNames$Tape" 99) "java/lang/String") (dkT_at _ _ lkP_2 8 _ rfl)) (hs (Cond.eq (.field (.string "ManyNames$Tape" 99) "java/lang/String" "coder" "B") (.int 0)) (dkT_at _ _ lkP_2 9 _ rfl)) (hs (Cond.arrayOf (.field (.string "ManyNames$Tape" 99) "java/lang/String" "value" "[B") .byte) (dkT_at _ _ lkP_2 10 _ rfl)) (hs (Cond.eq (.length (.field (.string "ManyNames$Tape" 99) "java/lang/String" "value" "[B")) (.int 4)) (dkT_at _ _ lkP_2 11 _ rfl)) (fun j hj => ?_)
    match j, hj with
    | 0, _ => exact hs (Cond.eq (.elem (.field (.string "ManyNames$Tape" 99) "java/lang/String" "value" "[B") (.int 0)) (.int 102)) (dkT_at _ _ lkP_2 12 _ rfl)
    | 1, _ => exact hs (Cond.eq (.elem (.field (.string "ManyNames$Tape" 99) "java/lang/String" "value" "[B") (.int 1)) (.int 97)) (dkT_at _ _ lkP_2 13 _ rfl)
    | 2, _ => exact hs (Cond.eq (.elem (.field (.string "ManyNames$Tape" 99) "java/lang/String" "value" "[B") (.int 2)) (.int 100)) (dkT_at _ _ lkP_2 14 _ rfl)
    | 3, _ => exact hs (Cond.eq (.elem (.field (.string "ManyNames$Tape" 99) "java/lang/String" "value" "[B") (.int 3)) (.int 101)) (dkT_at _ _ lkP_2 15 _ rfl)
  · refine key 5 (by decide) (hs (Cond.exactly (.string "ManyNames$Tape" 101) "java/lang/String") (dkT_at _ _ lkP_2 16 _ rfl)) (hs (Cond.eq (.field (.string "ManyNames$Tape" 101) "java/lang/String" "coder" "B") (.int 0)) (dkT_at _ _ lkP_2 17 _ rfl)) (hs (Cond.arrayOf (.field (.string "ManyNames$Tape" 101) "java/lang/String" "value" "[B") .byte) (dkT_at _ _ lkP_2 18 _ rfl)) (hs (Cond.eq (.length (.field (.string "ManyNames$Tape" 101) "java/lang/String" "value" "[B")) (.int 4)) (dkT_at _ _ lkP_2 19 _ rfl)) (fun j hj => ?_)
    match j, hj with
    | 0, _ => exact hs (Cond.eq (.elem (.field (.string "ManyNames$Tape" 101) "java/lang/String" "value" "[B") (.int 0)) (.int 119)) (dkT_at _ _ lkP_2 20 _ rfl)
    | 1, _ => exact hs (Cond.eq (.elem (.field (.string "ManyNames$Tape" 101) "java/lang/String" "value" "[B") (.int 1)) (.int 111)) (dkT_at _ _ lkP_2 21 _ rfl)
    | 2, _ => exact hs (Cond.eq (.elem (.field (.string "ManyNames$Tape" 101) "java/lang/String" "value" "[B") (.int 2)) (.int 114)) (dkT_at _ _ lkP_2 22 _ rfl)
    | 3, _ => exact hs (Cond.eq (.elem (.field (.string "ManyNames$Tape" 101) "java/lang/String" "value" "[B") (.int 3)) (.int 100)) (dkT_at _ _ lkP_2 23 _ rfl)
  · refine key 6 (by decide) (hs (Cond.exactly (.string "ManyNames$Tape" 103) "java/lang/String") (dkT_at _ _ lkP_2 24 _ rfl)) (hs (Cond.eq (.field (.string "ManyNames$Tape" 103) "java/lang/String" "coder" "B") (.int 0)) (dkT_at _ _ lkP_2 25 _ rfl)) (hs (Cond.arrayOf (.field (.string "ManyNames$Tape" 103) "java/lang/String" "value" "[B") .byte) (dkT_at _ _ lkP_2 26 _ rfl)) (hs (Cond.eq (.length (.field (.string "ManyNames$Tape" 103) "java/lang/String" "value" "[B")) (.int 4)) (dkT_at _ _ lkP_2 27 _ rfl)) (fun j hj => ?_)
    match j, hj with
    | 0, _ => exact hs (Cond.eq (.elem (.field (.string "ManyNames$Tape" 103) "java/lang/String" "value" "[B") (.int 0)) (.int 115)) (dkT_at _ _ lkP_2 28 _ rfl)
    | 1, _ => exact hs (Cond.eq (.elem (.field (.string "ManyNames$Tape" 103) "java/lang/String" "value" "[B") (.int 1)) (.int 101)) (dkT_at _ _ lkP_2 29 _ rfl)
    | 2, _ => exact hs (Cond.eq (.elem (.field (.string "ManyNames$Tape" 103) "java/lang/String" "value" "[B") (.int 2)) (.int 101)) (dkT_at _ _ lkP_2 30 _ rfl)
    | 3, _ => exact hs (Cond.eq (.elem (.field (.string "ManyNames$Tape" 103) "java/lang/String" "value" "[B") (.int 3)) (.int 100)) (dkT_at _ _ lkP_2 31 _ rfl)
  · refine key 7 (by decide) (hs (Cond.exactly (.string "ManyNames$Tape" 105) "java/lang/String") (dkT_at _ _ lkP_3 0 _ rfl)) (hs (Cond.eq (.field (.string "ManyNames$Tape" 105) "java/lang/String" "coder" "B") (.int 0)) (dkT_at _ _ lkP_3 1 _ rfl)) (hs (Cond.arrayOf (.field (.string "ManyNames$Tape" 105) "java/lang/String" "value" "[B") .byte) (dkT_at _ _ lkP_3 2 _ rfl)) (hs (Cond.eq (.length (.field (.string "ManyNames$Tape" 105) "java/lang/String" "value" "[B")) (.int 6)) (dkT_at _ _ lkP_3 3 _ rfl)) (fun j hj => ?_)
    match j, hj with
    | 0, _ => exact hs (Cond.eq (.elem (.field (.string "ManyNames$Tape" 105) "java/lang/String" "value" "[B") (.int 0)) (.int 112)) (dkT_at _ _ lkP_3 4 _ rfl)
    | 1, _ => exact hs (Cond.eq (.elem (.field (.string "ManyNames$Tape" 105) "java/lang/String" "value" "[B") (.int 1)) (.int 108)) (dkT_at _ _ lkP_3 5 _ rfl)
    | 2, _ => exact hs (Cond.eq (.elem (.field (.string "ManyNames$Tape" 105) "java/lang/String" "value" "[B") (.int 2)) (.int 101)) (dkT_at _ _ lkP_3 6 _ rfl)
    | 3, _ => exact hs (Cond.eq (.elem (.field (.string "ManyNames$Tape" 105) "java/lang/String" "value" "[B") (.int 3)) (.int 100)) (dkT_at _ _ lkP_3 7 _ rfl)
    | 4, _ => exact hs (Cond.eq (.elem (.field (.string "ManyNames$Tape" 105) "java/lang/String" "value" "[B") (.int 4)) (.int 103)) (dkT_at _ _ lkP_3 8 _ rfl)
    | 5, _ => exact hs (Cond.eq (.elem (.field (.string "ManyNames$Tape" 105) "java/lang/String" "value" "[B") (.int 5)) (.int 101)) (dkT_at _ _ lkP_3 9 _ rfl)
  · refine key 8 (by decide) (hs (Cond.exactly (.string "ManyNames$Tape" 107) "java/lang/String") (dkT_at _ _ lkP_3 10 _ rfl)) (hs (Cond.eq (.field (.string "ManyNames$Tape" 107) "java/lang/String" "coder" "B") (.int 0)) (dkT_at _ _ lkP_3 11 _ rfl)) (hs (Cond.arrayOf (.field (.string "ManyNames$Tape" 107) "java/lang/String" "value" "[B") .byte) (dkT_at _ _ lkP_3 12 _ rfl)) (hs (Cond.eq (.length (.field (.string "ManyNames$Tape" 107) "java/lang/String" "value" "[B")) (.int 4)) (dkT_at _ _ lkP_3 13 _ rfl)) (fun j hj => ?_)
    match j, hj with
    | 0, _ => exact hs (Cond.eq (.elem (.field (.string "ManyNames$Tape" 107) "java/lang/String" "value" "[B") (.int 0)) (.int 102)) (dkT_at _ _ lkP_3 14 _ rfl)
    | 1, _ => exact hs (Cond.eq (.elem (.field (.string "ManyNames$Tape" 107) "java/lang/String" "value" "[B") (.int 1)) (.int 105)) (dkT_at _ _ lkP_3 15 _ rfl)
    | 2, _ => exact hs (Cond.eq (.elem (.field (.string "ManyNames$Tape" 107) "java/lang/String" "value" "[B") (.int 2)) (.int 110)) (dkT_at _ _ lkP_3 16 _ rfl)
    | 3, _ => exact hs (Cond.eq (.elem (.field (.string "ManyNames$Tape" 107) "java/lang/String" "value" "[B") (.int 3)) (.int 101)) (dkT_at _ _ lkP_3 17 _ rfl)
  · refine key 9 (by decide) (hs (Cond.exactly (.string "ManyNames$Tape" 109) "java/lang/String") (dkT_at _ _ lkP_3 18 _ rfl)) (hs (Cond.eq (.field (.string "ManyNames$Tape" 109) "java/lang/String" "coder" "B") (.int 0)) (dkT_at _ _ lkP_3 19 _ rfl)) (hs (Cond.arrayOf (.field (.string "ManyNames$Tape" 109) "java/lang/String" "value" "[B") .byte) (dkT_at _ _ lkP_3 20 _ rfl)) (hs (Cond.eq (.length (.field (.string "ManyNames$Tape" 109) "java/lang/String" "value" "[B")) (.int 4)) (dkT_at _ _ lkP_3 21 _ rfl)) (fun j hj => ?_)
    match j, hj with
    | 0, _ => exact hs (Cond.eq (.elem (.field (.string "ManyNames$Tape" 109) "java/lang/String" "value" "[B") (.int 0)) (.int 103)) (dkT_at _ _ lkP_3 22 _ rfl)
    | 1, _ => exact hs (Cond.eq (.elem (.field (.string "ManyNames$Tape" 109) "java/lang/String" "value" "[B") (.int 1)) (.int 111)) (dkT_at _ _ lkP_3 23 _ rfl)
    | 2, _ => exact hs (Cond.eq (.elem (.field (.string "ManyNames$Tape" 109) "java/lang/String" "value" "[B") (.int 2)) (.int 111)) (dkT_at _ _ lkP_3 24 _ rfl)
    | 3, _ => exact hs (Cond.eq (.elem (.field (.string "ManyNames$Tape" 109) "java/lang/String" "value" "[B") (.int 3)) (.int 100)) (dkT_at _ _ lkP_3 25 _ rfl)
  · refine key 10 (by decide) (hs (Cond.exactly (.string "ManyNames$Tape" 111) "java/lang/String") (dkT_at _ _ lkP_3 26 _ rfl)) (hs (Cond.eq (.field (.string "ManyNames$Tape" 111) "java/lang/String" "coder" "B") (.int 0)) (dkT_at _ _ lkP_3 27 _ rfl)) (hs (Cond.arrayOf (.field (.string "ManyNames$Tape" 111) "java/lang/String" "value" "[B") .byte) (dkT_at _ _ lkP_3 28 _ rfl)) (hs (Cond.eq (.length (.field (.string "ManyNames$Tape" 111) "java/lang/String" "value" "[B")) (.int 0)) (dkT_at _ _ lkP_3 29 _ rfl)) (fun j hj => ?_)
    exact absurd hj (Nat.not_lt_zero _)
theorem law_Z {args : Array Value} {s : State} {A : Nat → Prop} (hgv : (Jvm.Cond.and given_1 narrow_1).before args s = true) (hts : ∀ w ∈ lw_tbl, w.before args s = true) (hA : ∀ a : Nat, a < s.heap.size → ¬ A a) : ∃ sta : Nat → Nat, aw_Z sta A s s.heap := by
  obtain ⟨t0, h0⟩ := st0 hgv hts hA
  obtain ⟨t1, h1⟩ := st1 hgv hts hA
  obtain ⟨t2, h2⟩ := st2 hgv hts hA
  have hs := flat_of_before _ hgv
  have hcs := va_eqt (hs (Cond.eq (.static "java/lang/String" "COMPACT_STRINGS" "Z") (.int 1)) (dkT_at _ _ lkP_0 12 _ rfl))
  obtain ⟨vf, hvf, hvr⟩ := Cond.isRef_spec (hs (Cond.isRef (.static "jdk/internal/util/Preconditions" "SIOOBE_FORMATTER" "Ljava/util/function/BiFunction;")) (dkT_at _ _ lkP_0 13 _ rfl))
  have hT := law_T (A := A) hgv hA
  obtain ⟨ad, had⟩ := Classical.axiomOfChoice (show ∀ i : Nat, ∃ q : Nat × Nat, i < 11 → (tmS i).eval args s none [] s = some (.ref q.1) ∧ va_O "java/lang/String" q.1 A s s.heap ∧ va_OF "java/lang/String" "coder" "B" (.int 0) q.1 A s s.heap ∧ va_OF "java/lang/String" "value" "[B" (.ref q.2) q.1 A s s.heap ∧ va_T .byte q.2 (aw_tl i) (fun j => .int (aw_tc i j)) A s s.heap from fun i => by
    by_cases hi : i < 11
    · obtain ⟨q, hq⟩ := hT i hi
      exact ⟨q, fun _ => hq⟩
    · exact ⟨(0, 0), fun z => absurd z hi⟩)
  obtain ⟨nf, af, hnf⟩ : ∃ nf af : Nat, vf = if nf = 0 then Value.null else Value.ref af := by
    cases vf with
    | null => exact ⟨0, 0, rfl⟩
    | ref a => exact ⟨1, a, rfl⟩
    | int a => cases hvr
    | long a => cases hvr
    | float a => cases hvr
    | double a => cases hvr
    | _ => cases hvr
  let sta : Nat → Nat := fun i => if i = 0 then t0 else if i = 1 then t1 else if i = 2 then t2 else if i < 14 then (ad (i - 3)).1 else if i < 25 then (ad (i - 14)).2 else if i = 25 then af else nf
  have e1 : ∀ i, i < 11 → sta (3 + i) = (ad i).1 := by
    intro i hi
    show (if 3 + i = 0 then t0 else if 3 + i = 1 then t1 else if 3 + i = 2 then t2 else if 3 + i < 14 then (ad (3 + i - 3)).1 else if 3 + i < 25 then (ad (3 + i - 14)).2 else if 3 + i = 25 then af else nf) = _
    rw [if_neg (by omega), if_neg (by omega), if_neg (by omega), if_pos (by omega), show 3 + i - 3 = i by omega]
  have e2 : ∀ i, i < 11 → sta (14 + i) = (ad i).2 := by
    intro i hi
    show (if 14 + i = 0 then t0 else if 14 + i = 1 then t1 else if 14 + i = 2 then t2 else if 14 + i < 14 then (ad (14 + i - 3)).1 else if 14 + i < 25 then (ad (14 + i - 14)).2 else if 14 + i = 25 then af else nf) = _
    rw [if_neg (by omega), if_neg (by omega), if_neg (by omega), if_neg (by omega), if_pos (by omega), show 14 + i - 14 = i by omega]
  have e3 : aw_sv sta = vf := hnf.symm
  have hsr : ∀ i, i < 11 → (Cond.stringRef "ManyNames$Tape" (91 + 2 * i) (aw_tx i)).before args s = true := by
    refine lt11 (P := fun i => (Cond.stringRef "ManyNames$Tape" (91 + 2 * i) (aw_tx i)).before args s = true) (hts (Jvm.Cond.stringRef "ManyNames$Tape" (91 : Nat) "met") (dkT_at _ _ lkT_0 5 _ rfl)) (hts (Jvm.Cond.stringRef "ManyNames$Tape" (93 : Nat) "dealt") (dkT_at _ _ lkT_0 6 _ rfl)) (hts (Jvm.Cond.stringRef "ManyNames$Tape" (95 : Nat) "said") (dkT_at _ _ lkT_0 7 _ rfl)) (hts (Jvm.Cond.stringRef "ManyNames$Tape" (97 : Nat) "bought") (dkT_at _ _ lkT_0 8 _ rfl)) (hts (Jvm.Cond.stringRef "ManyNames$Tape" (99 : Nat) "fade") (dkT_at _ _ lkT_0 9 _ rfl)) (hts (Jvm.Cond.stringRef "ManyNames$Tape" (101 : Nat) "word") (dkT_at _ _ lkT_0 10 _ rfl)) (hts (Jvm.Cond.stringRef "ManyNames$Tape" (103 : Nat) "seed") (dkT_at _ _ lkT_0 11 _ rfl)) (hts (Jvm.Cond.stringRef "ManyNames$Tape" (105 : Nat) "pledge") (dkT_at _ _ lkT_0 12 _ rfl)) (hts (Jvm.Cond.stringRef "ManyNames$Tape" (107 : Nat) "fine") (dkT_at _ _ lkT_0 13 _ rfl)) (hts (Jvm.Cond.stringRef "ManyNames$Tape" (109 : Nat) "good") (dkT_at _ _ lkT_0 14 _ rfl)) (hts (Jvm.Cond.stringRef "ManyNames$Tape" (111 : Nat) "") (dkT_at _ _ lkT_0 15 _ rfl))
  refine ⟨sta, h0, h1, h2, fun i hi => ?_, ?_, ?_⟩
  · obtain ⟨q1, q2, q3, q4, q5⟩ := had i hi
    show vk_R _ _ _ _ _ ∧ _
    rw [e1 i hi, e2 i hi]
    exact ⟨vk_R.of (hsr i hi) q1, q2, q3, q4, q5⟩
  · exact va_Zof (hts (Jvm.Cond.laysStatic "java/lang/String" "COMPACT_STRINGS" "Z") (dkT_at _ _ lkT_0 16 _ rfl)) (hts (Jvm.Cond.initialized "java/lang/String") (dkT_at _ _ lkT_0 1 _ rfl)) hcs hA
  · rw [e3]
    exact va_Zof (hts (Jvm.Cond.laysStatic "jdk/internal/util/Preconditions" "SIOOBE_FORMATTER" "Ljava/util/function/BiFunction;") (dkT_at _ _ lkT_0 17 _ rfl)) (hts (Jvm.Cond.initialized "jdk/internal/util/Preconditions") (dkT_at _ _ lkT_0 2 _ rfl)) hvf hA
theorem law_K {args : Array Value} {s : State} (hts : ∀ w ∈ lw_tbl, w.before args s = true) : ∃ (D : va_G) (cI cZ cO : ClassId), va_K D vwCl [(cI, .int), (cZ, .boolean), (cO, .object "ManyNames$Sheet")] s := by
  obtain ⟨c0, iS0, hK0⟩ := u_known (C := RX0) (T := TX0) (N := 7) (n := 7) hts inX0 (hts _ (List.mem_filter.mp inX0_).1)
  obtain ⟨c1, iS1, hK1⟩ := u_known (C := RX1) (T := TX1) (N := 6) (n := 6) hts inX1 (hts _ (List.mem_filter.mp inX1_).1)
  obtain ⟨c2, iS2, hK2⟩ := u_known (C := RX2) (T := TX2) (N := 3) (n := 3) hts inX2 (hts _ (List.mem_filter.mp inX2_).1)
  obtain ⟨c3, iS3, hK3⟩ := u_known (C := RX3) (T := TX3) (N := 8) (n := 8) hts inX3 (hts _ (List.mem_filter.mp inX3_).1)
  obtain ⟨c4, iS4, hK4⟩ := u_known (C := RX4) (T := TX4) (N := 6) (n := 6) hts inX4 (hts _ (List.mem_filter.mp inX4_).1)
  obtain ⟨c5, iS5, hK5⟩ := u_known (C := RX5) (T := TX5) (N := 8) (n := 8) hts inX5 (hts _ (List.mem_filter.mp inX5_).1)
  obtain ⟨c6, iS6, hK6⟩ := u_known (C := RX6) (T := TX6) (N := 13) (n := 13) hts inX6 (hts _ (List.mem_filter.mp inX6_).1)
  obtain ⟨c7, iS7, hK7⟩ := u_known (C := RX7) (T := TX7) (N := 44) (n := 44) hts inX7 (hts _ (List.mem_filter.mp inX7_).1)
  obtain ⟨cI, kI, pI, i1, i2, i3⟩ := Cond.arrayClass_spec (hts _ (List.mem_filter.mp acI).1)
  obtain ⟨cZ, kZ, pZ, z1, z2, z3⟩ := Cond.arrayClass_spec (hts _ (List.mem_filter.mp acZ).1)
  obtain ⟨comp, cO, kO, o1, o2, o3, o4, o5⟩ := Cond.arrayOver_spec (hts _ aoS)
  refine ⟨(fun k => if k = 0 then c0 else if k = 1 then c1 else if k = 2 then c2 else if k = 3 then c3 else if k = 4 then c4 else if k = 5 then c5 else if k = 6 then c6 else c7, fun k => if k = 0 then iS0 else if k = 1 then iS1 else if k = 2 then iS2 else if k = 3 then iS3 else if k = 4 then iS4 else if k = 5 then iS5 else if k = 6 then iS6 else iS7), cI, cZ, cO, ?_, ?_⟩
  · intro k q hq
    match k, hq with
    | 0, hq => cases hq; exact hK0
    | 1, hq => cases hq; exact hK1
    | 2, hq => cases hq; exact hK2
    | 3, hq => cases hq; exact hK3
    | 4, hq => cases hq; exact hK4
    | 5, hq => cases hq; exact hK5
    | 6, hq => cases hq; exact hK6
    | 7, hq => cases hq; exact hK7
    | k + 8, hq => simp [vwCl] at hq
  · intro k q hq
    match k, hq with
    | 0, hq => cases hq; exact ⟨fun n z => ⟨fun k h => (by cases h), kI, i2, pI, i3⟩, i1⟩
    | 1, hq => cases hq; exact ⟨fun n z => ⟨fun k h => (by cases h), kZ, z2, pZ, z3⟩, z1⟩
    | 2, hq => cases hq; exact ⟨fun n z => ⟨fun k h => (by cases h), kO, o3, comp, o4⟩, kO, comp, o3, o4, o1, by first | exact o5 | (rw [o5]) | simpa using o5⟩
    | k + 3, hq => simp at hq
