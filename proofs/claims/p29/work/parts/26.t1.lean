def stdF (h : HS) (a : Int32) : Int32 × HS := if h.1 4 2 = 0 then (if h.1 4 5 = a then (1, h) else (0, setI h 4 2 2)) else (0, h)
def fig (v : Int32) : Prop := 48 ≤ v ∧ v ≤ 57
def nuV (h : HS) : Int32 := if 4 ≤ h.1 4 3 - h.1 4 4 then h.1 4 6 else 10 * h.1 4 6 + h.1 33 (h.1 4 3).toNatClampNeg - 48
def nuL : Nat → HS → HS
  | 0, h => h
  | n + 1, h => if h.1 4 3 < h.1 4 1 ∧ (48 ≤ h.1 33 (h.1 4 3).toNatClampNeg ∧ h.1 33 (h.1 4 3).toNatClampNeg ≤ 57) then nuL n (setI (setI h 4 6 (nuV h)) 4 3 (h.1 4 3 + 1)) else h
def nuE (h : HS) : HS := if h.1 4 3 - h.1 4 4 ≤ 4 then h else setI h 4 2 1
/-- the tape: place and length -/
def TL (h : HS) (p L : Nat) : Prop := h.1 4 3 = nI p ∧ h.1 4 1 = nI L ∧ p ≤ L ∧ L ≤ 200
set_option maxHeartbeats 4000000 in
set_option maxRecDepth 100000 in
theorem tX3_stands (l : Launch) (g : Geo) (sta : Nat → Nat) (h : HS) (a : Int32) : CT (wX l g sta) 1 mX3_stands [.ref (g.2.1 4), .int a] h (DP (stdF h a)) := by
  refine CT.at [some (.ref (g.2.1 4)), some (.int a)] 0 rfl (by decide) (Nat.le_of_ble_eq_true rfl) (fun k K => ?_)
  refine aw_al0 K dX3_stands_0 ?_
  refine aw_getI K gX3_25 dX3_stands_1 rfl rfl ?_
  refine aw_if_ne (tgt := 20) K dX3_stands_4 (by decide) (fun b4 => ?_) (fun b4 => ?_)
  · refine aw_al0 K dX3_stands_20 ?_
    refine aw_getI K gX3_25 dX3_stands_21 rfl rfl ?_
    refine aw_if_ne (tgt := 31) K dX3_stands_24 (by decide) (fun b24 => ?_) (fun b24 => ?_)
    · have hh := b24
      refine aw_iconst (v := 0) K dX3_stands_31 (by decide) ?_
      refine aw_zret K rfl dX3_stands_32 (by first | rfl | exact bI_nar _) ?_
      exact DPi (by rw [stdF, if_neg b4])
    · exact absurd b24 b4
  · refine aw_al0 K dX3_stands_7 ?_
    refine aw_getI K gX3_31 dX3_stands_8 rfl rfl ?_
    refine aw_il1 K dX3_stands_11 ?_
    refine aw_icmp_eq (tgt := 20) K dX3_stands_12 (by decide) (fun b12 => ?_) (fun b12 => ?_)
    · refine aw_al0 K dX3_stands_20 ?_
      refine aw_getI K gX3_25 dX3_stands_21 rfl rfl ?_
      refine aw_if_ne (tgt := 31) K dX3_stands_24 (by decide) (fun b24 => ?_) (fun b24 => ?_)
      · exact absurd b4 b24
      · have hh := b24
        refine aw_iconst (v := 1) K dX3_stands_27 (by decide) ?_
        refine aw_goto (tgt := 32) K dX3_stands_28 (by decide) ?_
        refine aw_zret K rfl dX3_stands_32 (by first | rfl | exact bI_nar _) ?_
        exact DPi (by rw [stdF, if_pos b4, if_pos b12])
    · refine aw_al0 K dX3_stands_15 ?_
      refine aw_iconst (v := 2) K dX3_stands_16 (by decide) ?_
      refine aw_putI K gX3_25 fpX3_2 dX3_stands_17 rfl rfl ?_
      refine aw_al0 K dX3_stands_20 ?_
      refine aw_getI K gX3_25 dX3_stands_21 rfl rfl ?_
      refine aw_if_ne (tgt := 31) K dX3_stands_24 (by decide) (fun b24 => ?_) (fun b24 => ?_)
      · have hh := b24
        refine aw_iconst (v := 0) K dX3_stands_31 (by decide) ?_
        refine aw_zret K rfl dX3_stands_32 (by first | rfl | exact bI_nar _) ?_
        exact DPi (by rw [stdF, if_pos b4, if_neg b12])
      · exact absurd b24 (by show ¬ (2 : Int32) = 0; decide)

set_option maxHeartbeats 4000000 in
set_option maxRecDepth 100000 in
theorem tX3_isFigure (l : Launch) (g : Geo) (sta : Nat → Nat) (h : HS) (a : Int32) (ha : vp_in a 200) : CT (wX l g sta) 2 mX3_isFigure [.ref (g.2.1 4), .int a] h (DI (bI (48 ≤ h.1 33 a.toNatClampNeg ∧ h.1 33 a.toNatClampNeg ≤ 57)) h) := by
  refine CT.at [some (.ref (g.2.1 4)), some (.int a)] 0 rfl (by decide) (Nat.le_of_ble_eq_true rfl) (fun k K => ?_)
  refine aw_al0 K dX3_isFigure_0 ?_
  refine aw_getR K gX3_11 dX3_isFigure_1 rfl rfl ?_
  refine aw_il1 K dX3_isFigure_4 ?_
  refine aw_iald K dX3_isFigure_5 rfl ha ?_
  refine aw_bipush (v := 48) K dX3_isFigure_6 (by decide) ?_
  refine aw_bipush (v := 57) K dX3_isFigure_8 (by decide) ?_
  refine aw_callSN_I K (tX6_within l g sta _ _ _ _) rfl (by decide) fX6_within lX3_58 dX3_isFigure_10 rfl (Nat.le_of_ble_eq_true rfl) ?_
  refine aw_zret K rfl dX3_isFigure_13 (by first | rfl | exact bI_nar _) ?_
  exact ⟨rfl, rfl⟩

set_option maxHeartbeats 4000000 in
set_option maxRecDepth 100000 in
theorem tX3_isLetter (l : Launch) (g : Geo) (sta : Nat → Nat) (h : HS) (a : Int32) (ha : vp_in a 200) : CT (wX l g sta) 2 mX3_isLetter [.ref (g.2.1 4), .int a] h (DI (bI (97 ≤ h.1 33 a.toNatClampNeg ∧ h.1 33 a.toNatClampNeg ≤ 122)) h) := by
  refine CT.at [some (.ref (g.2.1 4)), some (.int a)] 0 rfl (by decide) (Nat.le_of_ble_eq_true rfl) (fun k K => ?_)
  refine aw_al0 K dX3_isLetter_0 ?_
  refine aw_getR K gX3_11 dX3_isLetter_1 rfl rfl ?_
  refine aw_il1 K dX3_isLetter_4 ?_
  refine aw_iald K dX3_isLetter_5 rfl ha ?_
  refine aw_bipush (v := 97) K dX3_isLetter_6 (by decide) ?_
  refine aw_bipush (v := 122) K dX3_isLetter_8 (by decide) ?_
  refine aw_callSN_I K (tX6_within l g sta _ _ _ _) rfl (by decide) fX6_within lX3_58 dX3_isLetter_10 rfl (Nat.le_of_ble_eq_true rfl) ?_
  refine aw_zret K rfl dX3_isLetter_13 (by first | rfl | exact bI_nar _) ?_
  exact ⟨rfl, rfl⟩

set_option maxHeartbeats 4000000 in
set_option maxRecDepth 100000 in
theorem lpX3_readNumber {l : Launch} {g : Geo} {sta : Nat → Nat} {k : KT} {P : Option Value → HS → Prop} (K : AOK (wX l g sta) mX3_readNumber k) (L : Nat) :
    ∀ (n p : Nat) (h : HS), TL h p L → L - p < n → AW (wX l g sta) P 3 mX3_readNumber k 89 [some (.ref (g.2.1 4))] [] (nuL n h) → AW (wX l g sta) P 3 mX3_readNumber k 10 [some (.ref (g.2.1 4))] [] h := by
  intro n
  induction n with
  | zero => intro p h h1 h2; omega
  | succ n ih =>
    intro p h h1 h2 hk
    have hp := h1.1
    have hl := h1.2.1
    have hpL := h1.2.2.1
    have hL := h1.2.2.2
    unfold nuL at hk
    refine aw_al0 K dX3_readNumber_10 ?_
    refine aw_getI K gX3_19 dX3_readNumber_11 rfl rfl ?_
    refine aw_al0 K dX3_readNumber_14 ?_
    refine aw_getI K gX3_15 dX3_readNumber_15 rfl rfl ?_
    refine aw_icmp_ge (tgt := 89) K dX3_readNumber_18 (by decide) (fun b18 => ?_) (fun b18 => ?_)
    · rw [if_neg (fun q => absurd b18 (Int32.not_le.mpr q.1))] at hk
      exact hk
    · have hlt : p < L := by
        rcases Nat.lt_or_ge p L with q | q
        · exact q
        · exact absurd (by rw [hp, hl]; exact nI_le q (by omega)) b18
      have hin : vp_in (h.1 4 3) 200 := by
        rw [hp]
        exact vp_in_nI (by omega) (by decide)
      refine aw_al0 K dX3_readNumber_21 ?_
      refine aw_al0 K dX3_readNumber_22 ?_
      refine aw_getI K gX3_19 dX3_readNumber_23 rfl rfl ?_
      refine aw_callV_I K (tX3_isFigure l g sta _ _ hin) rfl (by decide) fX3_isFigure lX3_68 dX3_readNumber_26 rfl clsX3 rfl (Nat.le_of_ble_eq_true rfl) ?_
      refine aw_if_eq (tgt := 89) K dX3_readNumber_29 (by decide) (fun b29 => ?_) (fun b29 => ?_)
      · rw [if_neg (fun q => bI_0.mp b29 q.2)] at hk
        exact hk
      · rw [if_pos ⟨Int32.not_le.mp b18, bI_1.mp b29⟩] at hk
        have hT : TL (setI (setI h 4 6 (nuV h)) 4 3 (h.1 4 3 + 1)) (p + 1) L := by
          refine ⟨?_, hl, by omega, hL⟩
          rw [rdI, if_pos ⟨rfl, rfl⟩, hp, nI_1]
        have hk2 := ih (p + 1) _ hT (by omega) hk
        refine aw_al0 K dX3_readNumber_32 ?_
        refine aw_al0 K dX3_readNumber_33 ?_
        refine aw_getI K gX3_19 dX3_readNumber_34 rfl rfl ?_
        refine aw_al0 K dX3_readNumber_37 ?_
        refine aw_getI K gX3_38 dX3_readNumber_38 rfl rfl ?_
        refine aw_isub K dX3_readNumber_41 ?_
        refine aw_iconst (v := 4) K dX3_readNumber_42 (by decide) ?_
        refine aw_icmp_ge (tgt := 69) K dX3_readNumber_43 (by decide) (fun b43 => ?_) (fun b43 => ?_)
        · refine aw_al0 K dX3_readNumber_69 ?_
          refine aw_getI K gX3_45 dX3_readNumber_70 rfl rfl ?_
          refine aw_putI K gX3_45 fpX3_6 dX3_readNumber_73 rfl rfl ?_
          refine aw_al0 K dX3_readNumber_76 ?_
          refine aw_dup K dX3_readNumber_77 rfl ?_
          refine aw_getI K gX3_19 dX3_readNumber_78 rfl rfl ?_
          refine aw_iconst (v := 1) K dX3_readNumber_81 (by decide) ?_
          refine aw_iadd K dX3_readNumber_82 ?_
          refine aw_putI K gX3_19 fpX3_3 dX3_readNumber_83 rfl rfl ?_
          refine aw_goto (tgt := 10) K dX3_readNumber_86 (by decide) ?_
          rw [nuV, if_pos b43] at hk2
          exact hk2
        · refine aw_bipush (v := 10) K dX3_readNumber_46 (by decide) ?_
          refine aw_al0 K dX3_readNumber_48 ?_
          refine aw_getI K gX3_45 dX3_readNumber_49 rfl rfl ?_
          refine aw_imul K dX3_readNumber_52 ?_
          refine aw_al0 K dX3_readNumber_53 ?_
          refine aw_getR K gX3_11 dX3_readNumber_54 rfl rfl ?_
          refine aw_al0 K dX3_readNumber_57 ?_
          refine aw_getI K gX3_19 dX3_readNumber_58 rfl rfl ?_
          refine aw_iald K dX3_readNumber_61 rfl hin ?_
          refine aw_iadd K dX3_readNumber_62 ?_
          refine aw_bipush (v := 48) K dX3_readNumber_63 (by decide) ?_
          refine aw_isub K dX3_readNumber_65 ?_
          refine aw_goto (tgt := 73) K dX3_readNumber_66 (by decide) ?_
          refine aw_putI K gX3_45 fpX3_6 dX3_readNumber_73 rfl rfl ?_
          refine aw_al0 K dX3_readNumber_76 ?_
          refine aw_dup K dX3_readNumber_77 rfl ?_
          refine aw_getI K gX3_19 dX3_readNumber_78 rfl rfl ?_
          refine aw_iconst (v := 1) K dX3_readNumber_81 (by decide) ?_
          refine aw_iadd K dX3_readNumber_82 ?_
          refine aw_putI K gX3_19 fpX3_3 dX3_readNumber_83 rfl rfl ?_
          refine aw_goto (tgt := 10) K dX3_readNumber_86 (by decide) ?_
          rw [nuV, if_neg b43] at hk2
          exact hk2
set_option maxHeartbeats 4000000 in
set_option maxRecDepth 100000 in
theorem tX3_readNumber (l : Launch) (g : Geo) (sta : Nat → Nat) (h : HS) {p L : Nat} (H : TL h p L) : CT (wX l g sta) 3 mX3_readNumber [.ref (g.2.1 4)] h (DV (nuE (nuL (L - p + 1) (setI (setI h 4 5 2) 4 6 0)))) := by
  refine CT.at [some (.ref (g.2.1 4))] 0 rfl (by decide) (Nat.le_of_ble_eq_true rfl) (fun k K => ?_)
  refine aw_al0 K dX3_readNumber_0 ?_
  refine aw_iconst (v := 2) K dX3_readNumber_1 (by decide) ?_
  refine aw_putI K gX3_31 fpX3_5 dX3_readNumber_2 rfl rfl ?_
  refine aw_al0 K dX3_readNumber_5 ?_
  refine aw_iconst (v := 0) K dX3_readNumber_6 (by decide) ?_
  refine aw_putI K gX3_45 fpX3_6 dX3_readNumber_7 rfl rfl ?_
  refine lpX3_readNumber K L (L - p + 1) p _ H (by omega) ?_
  refine aw_al0 K dX3_readNumber_89 ?_
  refine aw_getI K gX3_19 dX3_readNumber_90 rfl rfl ?_
  refine aw_al0 K dX3_readNumber_93 ?_
  refine aw_getI K gX3_38 dX3_readNumber_94 rfl rfl ?_
  refine aw_isub K dX3_readNumber_97 ?_
  refine aw_iconst (v := 4) K dX3_readNumber_98 (by decide) ?_
  refine aw_icmp_le (tgt := 107) K dX3_readNumber_99 (by decide) (fun b99 => ?_) (fun b99 => ?_)
  · refine aw_vret K rfl dX3_readNumber_107 ?_
    exact ⟨rfl, by rw [nuE, if_pos b99]⟩
  · refine aw_al0 K dX3_readNumber_102 ?_
    refine aw_iconst (v := 1) K dX3_readNumber_103 (by decide) ?_
    refine aw_putI K gX3_25 fpX3_2 dX3_readNumber_104 rfl rfl ?_
    refine aw_vret K rfl dX3_readNumber_107 ?_
    exact ⟨rfl, by rw [nuE, if_neg b99]⟩

