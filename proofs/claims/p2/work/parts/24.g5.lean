/-- an answer and the state behind it -/
def DP (q : Int32 × HS) : Option Value → HS → Prop := fun o h' => o = some (.int q.1) ∧ h' = q.2
theorem DPi {q : Int32 × HS} {r : Int32} {h' : HS} (e : q = (r, h')) : DP q (some (.int r)) h' := by subst e; exact ⟨rfl, rfl⟩
theorem inC {x : Int32} {N m : Nat} (hx : x = nI N) (hN : N < 2 ^ 31) (hm : m < 2 ^ 31) (h : x < nI m) : vp_in x m := by
  subst hx
  exact vp_in_nI ((nI_ltI hN hm).mp h) hm
theorem bI_0' {p : Prop} [Decidable p] (h : bI p = 0) : ¬ p := bI_0.mp h
def enF (h : HS) (a : Int32) : Int32 × HS := if h.1 1 5 < 12 then (h.1 1 5, setI (setI h 16 (h.1 1 5).toNatClampNeg a) 1 5 (h.1 1 5 + 1)) else (-3, h)
def nameF (h : HS) (a : Int32) : Int32 × HS := if 0 ≤ a ∧ a ≤ 999 then enF h a else (-1, h)
set_option maxHeartbeats 4000000 in
set_option maxRecDepth 100000 in
theorem tX1_enter (l : Launch) (g : Geo) (sta : Nat → Nat) (h : HS) (a : Int32) {N T Wn : Nat} (H : XW h N T Wn) : CT (wX l g sta) 6 mX1_enter [.ref (g.2.1 1), .int a] h (DP (enF h a)) := by
  refine CT.at [some (.ref (g.2.1 1)), some (.int a)] 0 rfl (by decide) (Nat.le_of_ble_eq_true rfl) (fun k K => ?_)
  refine aw_al0 K dX1_enter_0 ?_
  refine aw_getI K gX1_28 dX1_enter_1 rfl rfl ?_
  refine aw_bipush (v := 12) K dX1_enter_4 (by decide) ?_
  refine aw_icmp_lt (tgt := 12) K dX1_enter_6 (by decide) (fun b6 => ?_) (fun b6 => ?_)
  · have hc : vp_in (h.1 1 5) 12 := inC H.1.1 (by have := H.1.2; omega) (by decide) b6
    refine aw_al0 K dX1_enter_12 ?_
    refine aw_getR K gX1_9 dX1_enter_13 rfl rfl ?_
    refine aw_al0 K dX1_enter_16 ?_
    refine aw_getI K gX1_28 dX1_enter_17 rfl rfl ?_
    refine aw_il1 K dX1_enter_20 ?_
    refine aw_iast K dX1_enter_21 rfl hc ?_
    refine aw_al0 K dX1_enter_22 ?_
    refine aw_dup K dX1_enter_23 rfl ?_
    refine aw_getI K gX1_28 dX1_enter_24 rfl rfl ?_
    refine aw_dup_x1 K dX1_enter_27 rfl rfl ?_
    refine aw_iconst (v := 1) K dX1_enter_28 (by decide) ?_
    refine aw_iadd K dX1_enter_29 ?_
    refine aw_putI K gX1_28 fpX1_5 dX1_enter_30 rfl rfl ?_
    refine aw_iret K rfl dX1_enter_33 ?_
    exact DPi (by rw [enF, if_pos b6]; rfl)
  · refine aw_bipush (v := (-3)) K dX1_enter_9 (by decide) ?_
    refine aw_iret K rfl dX1_enter_11 ?_
    exact DPi (by rw [enF, if_neg b6])

set_option maxHeartbeats 4000000 in
set_option maxRecDepth 100000 in
theorem tX6_name (l : Launch) (g : Geo) (sta : Nat → Nat) (h : HS) (a : Int32) {N T Wn : Nat} (H : XW h N T Wn) : CT (wX l g sta) 7 mX6_name [.ref (g.2.1 0), .int a] h (DP (nameF h a)) := by
  refine CT.at [some (.ref (g.2.1 0)), some (.int a)] 0 rfl (by decide) (Nat.le_of_ble_eq_true rfl) (fun k K => ?_)
  refine aw_il1 K dX6_name_0 ?_
  refine aw_iconst (v := 0) K dX6_name_1 (by decide) ?_
  refine aw_sipush (v := 999) K dX6_name_2 (by decide) ?_
  refine aw_callS_I K (tX6_within l g sta _ _ _ _) rfl (by decide) fX6_within lX6_76 dX6_name_5 rfl (Nat.le_of_ble_eq_true rfl) ?_
  refine aw_if_ne (tgt := 13) K dX6_name_8 (by decide) (fun b8 => ?_) (fun b8 => ?_)
  · refine aw_al0 K dX6_name_13 ?_
    refine aw_getR K gX6_12 dX6_name_14 rfl rfl ?_
    refine aw_il1 K dX6_name_17 ?_
    refine aw_callV K (tX1_enter l g sta _ _ H) rfl (by decide) fX1_enter lX6_80 dX6_name_18 rfl clsX1 rfl (Nat.le_of_ble_eq_true rfl) (fun o h2 hq => ?_)
    obtain ⟨rfl, rfl⟩ := hq
    refine (show AW _ _ _ _ _ _ _ (.int _ :: _) _ from ?_)
    refine aw_iret K rfl dX6_name_21 ?_
    exact DPi (by rw [nameF, if_pos (bI_1.mp b8)])
  · refine aw_iconst (v := (-1)) K dX6_name_11 (by decide) ?_
    refine aw_iret K rfl dX6_name_12 ?_
    exact DPi (by rw [nameF, if_neg (bI_0.mp b8)])

def seedF (h : HS) (a b : Int32) : Int32 × HS := if 0 ≤ a ∧ a ≤ h.1 1 5 - 1 then (bI (¬ h.1 17 a.toNatClampNeg = 0), setI h 17 a.toNatClampNeg (vp_nar .boolean b)) else (-1, h)
set_option maxHeartbeats 4000000 in
set_option maxRecDepth 100000 in
theorem tX6_seed (l : Launch) (g : Geo) (sta : Nat → Nat) (h : HS) (a b : Int32) {N T Wn : Nat} (H : XW h N T Wn) : CT (wX l g sta) 7 mX6_seed [.ref (g.2.1 0), .int a, .int b] h (DP (seedF h a b)) := by
  refine CT.at [some (.ref (g.2.1 0)), some (.int a), some (.int b), none] 1 rfl (by decide) (Nat.le_of_ble_eq_true rfl) (fun k K => ?_)
  refine aw_al0 K dX6_seed_0 ?_
  refine aw_il1 K dX6_seed_1 ?_
  refine aw_callV_I K (tX6_isName l g sta _ _) rfl (by decide) fX6_isName lX6_84 dX6_seed_2 rfl clsX6 rfl (Nat.le_of_ble_eq_true rfl) ?_
  refine aw_if_ne (tgt := 10) K dX6_seed_5 (by decide) (fun b5 => ?_) (fun b5 => ?_)
  · have ha : vp_in a 12 := inN H.1.1 H.1.2 (by decide) (bI_1.mp b5)
    refine aw_al0 K dX6_seed_10 ?_
    refine aw_getR K gX6_12 dX6_seed_11 rfl rfl ?_
    refine aw_getR K gX6_88 dX6_seed_14 rfl rfl ?_
    refine aw_il1 K dX6_seed_17 ?_
    refine aw_zald K dX6_seed_18 rfl ha ?_
    refine aw_callS_I K (tX6_oneIf l g sta _ _) rfl (by decide) fX6_oneIf lX6_92 dX6_seed_19 rfl (Nat.le_of_ble_eq_true rfl) ?_
    refine aw_is3 K dX6_seed_22 (by decide) rfl ?_
    refine aw_al0 K dX6_seed_23 ?_
    refine aw_getR K gX6_12 dX6_seed_24 rfl rfl ?_
    refine aw_getR K gX6_88 dX6_seed_27 rfl rfl ?_
    refine aw_il1 K dX6_seed_30 ?_
    refine aw_il2 K dX6_seed_31 ?_
    refine aw_zast K dX6_seed_32 rfl ha ?_
    refine aw_il3 K dX6_seed_33 ?_
    refine aw_iret K rfl dX6_seed_34 ?_
    exact DPi (by rw [seedF, if_pos (bI_1.mp b5)])
  · refine aw_iconst (v := (-1)) K dX6_seed_8 (by decide) ?_
    refine aw_iret K rfl dX6_seed_9 ?_
    exact DPi (by rw [seedF, if_neg (bI_0.mp b5)])

def pledF (h : HS) (a b : Int32) : Int32 × HS := if (0 ≤ a ∧ a ≤ h.1 1 5 - 1) ∧ (1 ≤ b ∧ b ≤ 999) then (if h.1 18 a.toNatClampNeg = 0 then (plV (vX (setI h 20 a.toNatClampNeg (h.1 20 a.toNatClampNeg + b))) a.toNatClampNeg, setI h 20 a.toNatClampNeg (h.1 20 a.toNatClampNeg + b)) else (-2, h)) else (-1, h)
set_option maxHeartbeats 4000000 in
set_option maxRecDepth 100000 in
theorem tX6_pledge (l : Launch) (g : Geo) (sta : Nat → Nat) (h : HS) (a b : Int32) {N T Wn : Nat} (H : XW h N T Wn) : CT (wX l g sta) 7 mX6_pledge [.ref (g.2.1 0), .int a, .int b] h (DP (pledF h a b)) := by
  refine CT.at [some (.ref (g.2.1 0)), some (.int a), some (.int b)] 0 rfl (by decide) (Nat.le_of_ble_eq_true rfl) (fun k K => ?_)
  refine aw_al0 K dX6_pledge_0 ?_
  refine aw_il1 K dX6_pledge_1 ?_
  refine aw_callV_I K (tX6_isName l g sta _ _) rfl (by decide) fX6_isName lX6_84 dX6_pledge_2 rfl clsX6 rfl (Nat.le_of_ble_eq_true rfl) ?_
  refine aw_if_eq (tgt := 19) K dX6_pledge_5 (by decide) (fun b5 => ?_) (fun b5 => ?_)
  · refine aw_iconst (v := (-1)) K dX6_pledge_19 (by decide) ?_
    refine aw_iret K rfl dX6_pledge_20 ?_
    exact DPi (by rw [pledF, if_neg (fun q => bI_0.mp b5 q.1)])
  · refine aw_il2 K dX6_pledge_8 ?_
    refine aw_iconst (v := 1) K dX6_pledge_9 (by decide) ?_
    refine aw_sipush (v := 999) K dX6_pledge_10 (by decide) ?_
    refine aw_callS_I K (tX6_within l g sta _ _ _ _) rfl (by decide) fX6_within lX6_76 dX6_pledge_13 rfl (Nat.le_of_ble_eq_true rfl) ?_
    refine aw_if_ne (tgt := 21) K dX6_pledge_16 (by decide) (fun b16 => ?_) (fun b16 => ?_)
    · have ha : vp_in a 12 := inN H.1.1 H.1.2 (by decide) (bI_1.mp b5)
      refine aw_al0 K dX6_pledge_21 ?_
      refine aw_getR K gX6_12 dX6_pledge_22 rfl rfl ?_
      refine aw_getR K gX6_96 dX6_pledge_25 rfl rfl ?_
      refine aw_il1 K dX6_pledge_28 ?_
      refine aw_zald K dX6_pledge_29 rfl ha ?_
      refine aw_if_eq (tgt := 36) K dX6_pledge_30 (by decide) (fun b30 => ?_) (fun b30 => ?_)
      · refine aw_al0 K dX6_pledge_36 ?_
        refine aw_getR K gX6_12 dX6_pledge_37 rfl rfl ?_
        refine aw_getR K gX6_99 dX6_pledge_40 rfl rfl ?_
        refine aw_il1 K dX6_pledge_43 ?_
        refine aw_dup2_11 K dX6_pledge_44 rfl rfl ?_
        refine aw_iald K dX6_pledge_45 rfl ha ?_
        refine aw_il2 K dX6_pledge_46 ?_
        refine aw_iadd K dX6_pledge_47 ?_
        refine aw_iast K dX6_pledge_48 rfl ha ?_
        refine aw_al0 K dX6_pledge_49 ?_
        refine aw_il1 K dX6_pledge_50 ?_
        refine aw_callV_I K (tX6_pledgeRoom l g sta _ _ ha) rfl (by decide) fX6_pledgeRoom lX6_102 dX6_pledge_51 rfl clsX6 rfl (Nat.le_of_ble_eq_true rfl) ?_
        refine aw_iret K rfl dX6_pledge_54 ?_
        exact DPi (by rw [pledF, if_pos ⟨bI_1.mp b5, bI_1.mp b16⟩, if_pos b30])
      · refine aw_bipush (v := (-2)) K dX6_pledge_33 (by decide) ?_
        refine aw_iret K rfl dX6_pledge_35 ?_
        exact DPi (by rw [pledF, if_pos ⟨bI_1.mp b5, bI_1.mp b16⟩, if_neg b30])
    · refine aw_iconst (v := (-1)) K dX6_pledge_19 (by decide) ?_
      refine aw_iret K rfl dX6_pledge_20 ?_
      exact DPi (by rw [pledF, if_neg (fun q => bI_0.mp b16 q.2)])

def tenF (h : HS) (a b c e z : Int32) : Int32 × HS := if h.1 2 5 < 24 then (h.1 2 5, setI (setI (setI (setI (setI (setI h 21 (h.1 2 5).toNatClampNeg a) 22 (h.1 2 5).toNatClampNeg b) 23 (h.1 2 5).toNatClampNeg c) 24 (h.1 2 5).toNatClampNeg e) 25 (h.1 2 5).toNatClampNeg z) 2 5 (h.1 2 5 + 1)) else (-3, h)
def tieF (h : HS) (a b c e : Int32) : Int32 × HS := if ((0 ≤ a ∧ a ≤ h.1 1 5 - 1) ∧ (0 ≤ b ∧ b ≤ h.1 1 5 - 1) ∧ ¬ a = b) ∧ (1 ≤ c ∧ c ≤ 999) ∧ (0 ≤ e ∧ e ≤ 3) then (if h.1 2 5 < 24 then (if h.1 18 a.toNatClampNeg = 0 ∧ h.1 18 b.toNatClampNeg = 0 then tenF h a b c e (h.1 0 11) else (-2, h)) else (-3, h)) else (-1, h)
set_option maxHeartbeats 4000000 in
set_option maxRecDepth 100000 in
theorem tX4_enter (l : Launch) (g : Geo) (sta : Nat → Nat) (h : HS) (a b c e z : Int32) {N T Wn : Nat} (H : XW h N T Wn) : CT (wX l g sta) 6 mX4_enter [.ref (g.2.1 2), .int a, .int b, .int c, .int e, .int z] h (DP (tenF h a b c e z)) := by
  refine CT.at [some (.ref (g.2.1 2)), some (.int a), some (.int b), some (.int c), some (.int e), some (.int z)] 0 rfl (by decide) (Nat.le_of_ble_eq_true rfl) (fun k K => ?_)
  refine aw_al0 K dX4_enter_0 ?_
  refine aw_getI K gX4_27 dX4_enter_1 rfl rfl ?_
  refine aw_bipush (v := 24) K dX4_enter_4 (by decide) ?_
  refine aw_icmp_lt (tgt := 12) K dX4_enter_6 (by decide) (fun b6 => ?_) (fun b6 => ?_)
  · have hc : vp_in (h.1 2 5) 24 := inC H.2.1.1 (by have := H.2.1.2; omega) (by decide) b6
    refine aw_al0 K dX4_enter_12 ?_
    refine aw_getR K gX4_9 dX4_enter_13 rfl rfl ?_
    refine aw_al0 K dX4_enter_16 ?_
    refine aw_getI K gX4_27 dX4_enter_17 rfl rfl ?_
    refine aw_il1 K dX4_enter_20 ?_
    refine aw_iast K dX4_enter_21 rfl hc ?_
    refine aw_al0 K dX4_enter_22 ?_
    refine aw_getR K gX4_15 dX4_enter_23 rfl rfl ?_
    refine aw_al0 K dX4_enter_26 ?_
    refine aw_getI K gX4_27 dX4_enter_27 rfl rfl ?_
    refine aw_il2 K dX4_enter_30 ?_
    refine aw_iast K dX4_enter_31 rfl hc ?_
    refine aw_al0 K dX4_enter_32 ?_
    refine aw_getR K gX4_18 dX4_enter_33 rfl rfl ?_
    refine aw_al0 K dX4_enter_36 ?_
    refine aw_getI K gX4_27 dX4_enter_37 rfl rfl ?_
    refine aw_il3 K dX4_enter_40 ?_
    refine aw_iast K dX4_enter_41 rfl hc ?_
    refine aw_al0 K dX4_enter_42 ?_
    refine aw_getR K gX4_21 dX4_enter_43 rfl rfl ?_
    refine aw_al0 K dX4_enter_46 ?_
    refine aw_getI K gX4_27 dX4_enter_47 rfl rfl ?_
    refine aw_il4 K dX4_enter_50 ?_
    refine aw_iast K dX4_enter_52 rfl hc ?_
    refine aw_al0 K dX4_enter_53 ?_
    refine aw_getR K gX4_24 dX4_enter_54 rfl rfl ?_
    refine aw_al0 K dX4_enter_57 ?_
    refine aw_getI K gX4_27 dX4_enter_58 rfl rfl ?_
    refine aw_il5 K dX4_enter_61 ?_
    refine aw_iast K dX4_enter_63 rfl hc ?_
    refine aw_al0 K dX4_enter_64 ?_
    refine aw_dup K dX4_enter_65 rfl ?_
    refine aw_getI K gX4_27 dX4_enter_66 rfl rfl ?_
    refine aw_dup_x1 K dX4_enter_69 rfl rfl ?_
    refine aw_iconst (v := 1) K dX4_enter_70 (by decide) ?_
    refine aw_iadd K dX4_enter_71 ?_
    refine aw_putI K gX4_27 fpX4_5 dX4_enter_72 rfl rfl ?_
    refine aw_iret K rfl dX4_enter_75 ?_
    exact DPi (by rw [tenF, if_pos b6]; rfl)
  · refine aw_bipush (v := (-3)) K dX4_enter_9 (by decide) ?_
    refine aw_iret K rfl dX4_enter_11 ?_
    exact DPi (by rw [tenF, if_neg b6])

set_option maxHeartbeats 4000000 in
set_option maxRecDepth 100000 in
theorem tX6_tie (l : Launch) (g : Geo) (sta : Nat → Nat) (h : HS) (a b c e : Int32) {N T Wn : Nat} (H : XW h N T Wn) : CT (wX l g sta) 7 mX6_tie [.ref (g.2.1 0), .int a, .int b, .int c, .int e] h (DP (tieF h a b c e)) := by
  refine CT.at [some (.ref (g.2.1 0)), some (.int a), some (.int b), some (.int c), some (.int e)] 0 rfl (by decide) (Nat.le_of_ble_eq_true rfl) (fun k K => ?_)
  refine aw_al0 K dX6_tie_0 ?_
  refine aw_il1 K dX6_tie_1 ?_
  refine aw_il2 K dX6_tie_2 ?_
  refine aw_callV_I K (tX6_arePair l g sta _ _ _) rfl (by decide) fX6_arePair lX6_105 dX6_tie_3 rfl clsX6 rfl (Nat.le_of_ble_eq_true rfl) ?_
  refine aw_if_eq (tgt := 30) K dX6_tie_6 (by decide) (fun b6 => ?_) (fun b6 => ?_)
  · refine aw_iconst (v := (-1)) K dX6_tie_30 (by decide) ?_
    refine aw_iret K rfl dX6_tie_31 ?_
    exact DPi (by rw [tieF, if_neg (fun q => bI_0.mp b6 q.1)])
  · refine aw_il3 K dX6_tie_9 ?_
    refine aw_iconst (v := 1) K dX6_tie_10 (by decide) ?_
    refine aw_sipush (v := 999) K dX6_tie_11 (by decide) ?_
    refine aw_callS_I K (tX6_within l g sta _ _ _ _) rfl (by decide) fX6_within lX6_76 dX6_tie_14 rfl (Nat.le_of_ble_eq_true rfl) ?_
    refine aw_if_eq (tgt := 30) K dX6_tie_17 (by decide) (fun b17 => ?_) (fun b17 => ?_)
    · refine aw_iconst (v := (-1)) K dX6_tie_30 (by decide) ?_
      refine aw_iret K rfl dX6_tie_31 ?_
      exact DPi (by rw [tieF, if_neg (fun q => bI_0.mp b17 q.2.1)])
    · refine aw_il4 K dX6_tie_20 ?_
      refine aw_iconst (v := 0) K dX6_tie_22 (by decide) ?_
      refine aw_iconst (v := 3) K dX6_tie_23 (by decide) ?_
      refine aw_callS_I K (tX6_within l g sta _ _ _ _) rfl (by decide) fX6_within lX6_76 dX6_tie_24 rfl (Nat.le_of_ble_eq_true rfl) ?_
      refine aw_if_ne (tgt := 32) K dX6_tie_27 (by decide) (fun b27 => ?_) (fun b27 => ?_)
      · have ha : vp_in a 12 := inN H.1.1 H.1.2 (by decide) (bI_1.mp b6).1
        have hb : vp_in b 12 := inN H.1.1 H.1.2 (by decide) (bI_1.mp b6).2.1
        refine aw_al0 K dX6_tie_32 ?_
        refine aw_getR K gX6_19 dX6_tie_33 rfl rfl ?_
        refine aw_getI K gX6_109 dX6_tie_36 rfl rfl ?_
        refine aw_bipush (v := 24) K dX6_tie_39 (by decide) ?_
        refine aw_icmp_lt (tgt := 47) K dX6_tie_41 (by decide) (fun b41 => ?_) (fun b41 => ?_)
        · refine aw_al0 K dX6_tie_47 ?_
          refine aw_getR K gX6_12 dX6_tie_48 rfl rfl ?_
          refine aw_getR K gX6_96 dX6_tie_51 rfl rfl ?_
          refine aw_il1 K dX6_tie_54 ?_
          refine aw_zald K dX6_tie_55 rfl ha ?_
          refine aw_if_ne (tgt := 71) K dX6_tie_56 (by decide) (fun b56 => ?_) (fun b56 => ?_)
          · refine aw_bipush (v := (-2)) K dX6_tie_71 (by decide) ?_
            refine aw_iret K rfl dX6_tie_73 ?_
            exact DPi (by rw [tieF, if_pos ⟨bI_1.mp b6, bI_1.mp b17, bI_1.mp b27⟩, if_pos b41, if_neg (fun q => b56 q.1)])
          · refine aw_al0 K dX6_tie_59 ?_
            refine aw_getR K gX6_12 dX6_tie_60 rfl rfl ?_
            refine aw_getR K gX6_96 dX6_tie_63 rfl rfl ?_
            refine aw_il2 K dX6_tie_66 ?_
            refine aw_zald K dX6_tie_67 rfl hb ?_
            refine aw_if_eq (tgt := 74) K dX6_tie_68 (by decide) (fun b68 => ?_) (fun b68 => ?_)
            · refine aw_al0 K dX6_tie_74 ?_
              refine aw_getR K gX6_19 dX6_tie_75 rfl rfl ?_
              refine aw_il1 K dX6_tie_78 ?_
              refine aw_il2 K dX6_tie_79 ?_
              refine aw_il3 K dX6_tie_80 ?_
              refine aw_il4 K dX6_tie_81 ?_
              refine aw_al0 K dX6_tie_83 ?_
              refine aw_getI K gX6_113 dX6_tie_84 rfl rfl ?_
              refine aw_callV K (tX4_enter l g sta _ _ _ _ _ _ H) rfl (by decide) fX4_enter lX6_116 dX6_tie_87 rfl clsX4 rfl (Nat.le_of_ble_eq_true rfl) (fun o h2 hq => ?_)
              obtain ⟨rfl, rfl⟩ := hq
              refine (show AW _ _ _ _ _ _ _ (.int _ :: _) _ from ?_)
              refine aw_iret K rfl dX6_tie_90 ?_
              exact DPi (by rw [tieF, if_pos ⟨bI_1.mp b6, bI_1.mp b17, bI_1.mp b27⟩, if_pos b41, if_pos ⟨b56, b68⟩])
            · refine aw_bipush (v := (-2)) K dX6_tie_71 (by decide) ?_
              refine aw_iret K rfl dX6_tie_73 ?_
              exact DPi (by rw [tieF, if_pos ⟨bI_1.mp b6, bI_1.mp b17, bI_1.mp b27⟩, if_pos b41, if_neg (fun q => b68 q.2)])
        · refine aw_bipush (v := (-3)) K dX6_tie_44 (by decide) ?_
          refine aw_iret K rfl dX6_tie_46 ?_
          exact DPi (by rw [tieF, if_pos ⟨bI_1.mp b6, bI_1.mp b17, bI_1.mp b27⟩, if_neg b41])
      · refine aw_iconst (v := (-1)) K dX6_tie_30 (by decide) ?_
        refine aw_iret K rfl dX6_tie_31 ?_
        exact DPi (by rw [tieF, if_neg (fun q => bI_0.mp b27 q.2.2)])

def renF (h : HS) (a : Int32) : Int32 × HS := if 0 ≤ a ∧ a ≤ h.1 2 5 - 1 then (if ¬ vX h 3 (vX h 6 a.toNatClampNeg).toNatClampNeg = 0 ∨ ¬ vX h 3 (vX h 7 a.toNatClampNeg).toNatClampNeg = 0 then (-2, h) else (h.1 0 11 - h.1 25 a.toNatClampNeg, setI h 25 a.toNatClampNeg (h.1 0 11))) else (-1, h)
def dayF (h : HS) (a : Int32) : Int32 × HS := if h.1 0 11 ≤ a ∧ a ≤ 9999 then (h.1 0 11, setI h 0 11 a) else (-1, h)
def endF (h : HS) (a : Int32) : Int32 × HS := if 0 ≤ a ∧ a ≤ h.1 4 1 then (h.1 4 1, setI h 4 1 a) else (-1, h)
set_option maxHeartbeats 4000000 in
set_option maxRecDepth 100000 in
theorem tX6_renew (l : Launch) (g : Geo) (sta : Nat → Nat) (h : HS) (a : Int32) {N T Wn : Nat} (H : XW h N T Wn) : CT (wX l g sta) 7 mX6_renew [.ref (g.2.1 0), .int a] h (DP (renF h a)) := by
  refine CT.at [some (.ref (g.2.1 0)), some (.int a), none] 1 rfl (by decide) (Nat.le_of_ble_eq_true rfl) (fun k K => ?_)
  refine aw_al0 K dX6_renew_0 ?_
  refine aw_il1 K dX6_renew_1 ?_
  refine aw_callV_I K (tX6_isTie l g sta _ _) rfl (by decide) fX6_isTie lX6_119 dX6_renew_2 rfl clsX6 rfl (Nat.le_of_ble_eq_true rfl) ?_
  refine aw_if_ne (tgt := 10) K dX6_renew_5 (by decide) (fun b5 => ?_) (fun b5 => ?_)
  · have ha : vp_in a 24 := inN H.2.1.1 H.2.1.2 (by decide) (bI_1.mp b5)
    refine aw_al0 K dX6_renew_10 ?_
    refine aw_il1 K dX6_renew_11 ?_
    refine aw_callV_I K (tX6_hasMadeEnd l g sta _ _ ha H.2.2.2.1 H.2.2.2.2.1) rfl (by decide) fX6_hasMadeEnd lX6_140 dX6_renew_12 rfl clsX6 rfl (Nat.le_of_ble_eq_true rfl) ?_
    refine aw_if_eq (tgt := 21) K dX6_renew_15 (by decide) (fun b15 => ?_) (fun b15 => ?_)
    · refine aw_al0 K dX6_renew_21 ?_
      refine aw_getI K gX6_113 dX6_renew_22 rfl rfl ?_
      refine aw_al0 K dX6_renew_25 ?_
      refine aw_getR K gX6_19 dX6_renew_26 rfl rfl ?_
      refine aw_getR K gX6_134 dX6_renew_29 rfl rfl ?_
      refine aw_il1 K dX6_renew_32 ?_
      refine aw_iald K dX6_renew_33 rfl ha ?_
      refine aw_isub K dX6_renew_34 ?_
      refine aw_is2 K dX6_renew_35 (by decide) rfl ?_
      refine aw_al0 K dX6_renew_36 ?_
      refine aw_getR K gX6_19 dX6_renew_37 rfl rfl ?_
      refine aw_getR K gX6_134 dX6_renew_40 rfl rfl ?_
      refine aw_il1 K dX6_renew_43 ?_
      refine aw_al0 K dX6_renew_44 ?_
      refine aw_getI K gX6_113 dX6_renew_45 rfl rfl ?_
      refine aw_iast K dX6_renew_48 rfl ha ?_
      refine aw_il2 K dX6_renew_49 ?_
      refine aw_iret K rfl dX6_renew_50 ?_
      exact DPi (by rw [renF, if_pos (bI_1.mp b5), if_neg (bI_0.mp b15)])
    · refine aw_bipush (v := (-2)) K dX6_renew_18 (by decide) ?_
      refine aw_iret K rfl dX6_renew_20 ?_
      exact DPi (by rw [renF, if_pos (bI_1.mp b5), if_pos (bI_1.mp b15)])
  · refine aw_iconst (v := (-1)) K dX6_renew_8 (by decide) ?_
    refine aw_iret K rfl dX6_renew_9 ?_
    exact DPi (by rw [renF, if_neg (bI_0.mp b5)])

set_option maxHeartbeats 4000000 in
set_option maxRecDepth 100000 in
theorem tX6_day (l : Launch) (g : Geo) (sta : Nat → Nat) (h : HS) (a : Int32) : CT (wX l g sta) 7 mX6_day [.ref (g.2.1 0), .int a] h (DP (dayF h a)) := by
  refine CT.at [some (.ref (g.2.1 0)), some (.int a), none] 1 rfl (by decide) (Nat.le_of_ble_eq_true rfl) (fun k K => ?_)
  refine aw_il1 K dX6_day_0 ?_
  refine aw_al0 K dX6_day_1 ?_
  refine aw_getI K gX6_113 dX6_day_2 rfl rfl ?_
  refine aw_sipush (v := 9999) K dX6_day_5 (by decide) ?_
  refine aw_callS_I K (tX6_within l g sta _ _ _ _) rfl (by decide) fX6_within lX6_76 dX6_day_8 rfl (Nat.le_of_ble_eq_true rfl) ?_
  refine aw_if_ne (tgt := 16) K dX6_day_11 (by decide) (fun b11 => ?_) (fun b11 => ?_)
  · refine aw_al0 K dX6_day_16 ?_
    refine aw_getI K gX6_113 dX6_day_17 rfl rfl ?_
    refine aw_is2 K dX6_day_20 (by decide) rfl ?_
    refine aw_al0 K dX6_day_21 ?_
    refine aw_il1 K dX6_day_22 ?_
    refine aw_putI K gX6_113 fpX6_11 dX6_day_23 rfl rfl ?_
    refine aw_il2 K dX6_day_26 ?_
    refine aw_iret K rfl dX6_day_27 ?_
    exact DPi (by rw [dayF, if_pos (bI_1.mp b11)])
  · refine aw_iconst (v := (-1)) K dX6_day_14 (by decide) ?_
    refine aw_iret K rfl dX6_day_15 ?_
    exact DPi (by rw [dayF, if_neg (bI_0.mp b11)])

set_option maxHeartbeats 4000000 in
set_option maxRecDepth 100000 in
theorem tX6_end (l : Launch) (g : Geo) (sta : Nat → Nat) (h : HS) (a : Int32) : CT (wX l g sta) 7 mX6_end [.ref (g.2.1 0), .int a] h (DP (endF h a)) := by
  refine CT.at [some (.ref (g.2.1 0)), some (.int a), none] 1 rfl (by decide) (Nat.le_of_ble_eq_true rfl) (fun k K => ?_)
  refine aw_il1 K dX6_end_0 ?_
  refine aw_iconst (v := 0) K dX6_end_1 (by decide) ?_
  refine aw_al0 K dX6_end_2 ?_
  refine aw_getR K gX6_33 dX6_end_3 rfl rfl ?_
  refine aw_getI K gX6_180 dX6_end_6 rfl rfl ?_
  refine aw_callS_I K (tX6_within l g sta _ _ _ _) rfl (by decide) fX6_within lX6_76 dX6_end_9 rfl (Nat.le_of_ble_eq_true rfl) ?_
  refine aw_if_ne (tgt := 17) K dX6_end_12 (by decide) (fun b12 => ?_) (fun b12 => ?_)
  · refine aw_al0 K dX6_end_17 ?_
    refine aw_getR K gX6_33 dX6_end_18 rfl rfl ?_
    refine aw_getI K gX6_180 dX6_end_21 rfl rfl ?_
    refine aw_is2 K dX6_end_24 (by decide) rfl ?_
    refine aw_al0 K dX6_end_25 ?_
    refine aw_getR K gX6_33 dX6_end_26 rfl rfl ?_
    refine aw_il1 K dX6_end_29 ?_
    refine aw_putI K gX6_180 fpX3_1 dX6_end_30 rfl rfl ?_
    refine aw_il2 K dX6_end_33 ?_
    refine aw_iret K rfl dX6_end_34 ?_
    exact DPi (by rw [endF, if_pos (bI_1.mp b12)])
  · refine aw_iconst (v := (-1)) K dX6_end_15 (by decide) ?_
    refine aw_iret K rfl dX6_end_16 ?_
    exact DPi (by rw [endF, if_neg (bI_0.mp b12)])

