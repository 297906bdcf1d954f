/-- an answer and the state behind it -/
def DP (q : Int32 × HS) : Option Value → HS → Prop := fun o h' => o = some (.int q.1) ∧ h' = q.2
theorem DPi {q : Int32 × HS} {r : Int32} {h' : HS} (e : q = (r, h')) : DP q (some (.int r)) h' := by subst e; exact ⟨rfl, rfl⟩
theorem inC {x : Int32} {N m : Nat} (hx : x = nI N) (hN : N < 2 ^ 31) (hm : m < 2 ^ 31) (h : x < nI m) : vp_in x m := by
  subst hx
  exact vp_in_nI ((nI_ltI hN hm).mp h) hm
theorem bI_0' {p : Prop} [Decidable p] (h : bI p = 0) : ¬ p := bI_0.mp h
def enF (h : HS) (a : Int32) : Int32 × HS := if h.1 1 5 < 12 then (h.1 1 5, setI (setI h 16 (h.1 1 5).toNatClampNeg a) 1 5 (h.1 1 5 + 1)) else (-3, h)
def nameF (h : HS) (a : Int32) : Int32 × HS := if 0 ≤ a ∧ a ≤ 999 then enF h a else (-1, h)
set_option maxHeartbeats 4000000 in
set_option maxRecDepth 100000 in
theorem tX1_enter (l : Launch) (g : Geo) (sta : Nat → Nat) (h : HS) (a : Int32) {N T Wn : Nat} (H : XW h N T Wn) : CT (wX l g sta) 6 mX1_enter [.ref (g.2.1 1), .int a] h (DP (enF h a)) := by
  refine CT.at [some (.ref (g.2.1 1)), some (.int a)] 0 rfl (by decide) (Nat.le_of_ble_eq_true rfl) (fun k K => ?_)
  refine aw_al0 K dX1_enter_0 ?_
  refine aw_getI K gX1_28 dX1_enter_1 rfl rfl ?_
  refine aw_bipush (v := 12) K dX1_enter_4 (by decide) ?_
  refine aw_icmp_lt (tgt := 12) K dX1_enter_6 (by decide) (fun b6 => ?_) (fun b6 => ?_)
  · have hc : vp_in (h.1 1 5) 12 := inC H.1.1 (by have := H.1.2; omega) (by decide) b6
    refine aw_al0 K dX1_enter_12 ?_
    refine aw_getR K gX1_9 dX1_enter_13 rfl rfl ?_
    refine aw_al0 K dX1_enter_16 ?_
    refine aw_getI K gX1_28 dX1_enter_17 rfl rfl ?_
    refine aw_il1 K dX1_enter_20 ?_
    refine aw_iast K dX1_enter_21 rfl hc ?_
    refine aw_al0 K dX1_enter_22 ?_
    refine aw_dup K dX1_enter_23 rfl ?_
    refine aw_getI K gX1_28 dX1_enter_24 rfl rfl ?_
    refine aw_dup_x1 K dX1_enter_27 rfl rfl ?_
    refine aw_iconst (v := 1) K dX1_enter_28 (by decide) ?_
    refine aw_iadd K dX1_enter_29 ?_
    refine aw_putI K gX1_28 fpX1_5 dX1_enter_30 rfl rfl ?_
    refine aw_iret K rfl dX1_enter_33 ?_
    exact DPi (by rw [enF, if_pos b6]; rfl)
  · refine aw_bipush (v := (-3)) K dX1_enter_9 (by decide) ?_
    refine aw_iret K rfl dX1_enter_11 ?_
    exact DPi (by rw [enF, if_neg b6])

set_option maxHeartbeats 4000000 in
set_option maxRecDepth 100000 in
theorem tX6_name (l : Launch) (g : Geo) (sta : Nat → Nat) (h : HS) (a : Int32) {N T Wn : Nat} (H : XW h N T Wn) : CT (wX l g sta) 7 mX6_name [.ref (g.2.1 0), .int a] h (DP (nameF h a)) := by
  refine CT.at [some (.ref (g.2.1 0)), some (.int a)] 0 rfl (by decide) (Nat.le_of_ble_eq_true rfl) (fun k K => ?_)
  refine aw_il1 K dX6_name_0 ?_
  refine aw_iconst (v := 0) K dX6_name_1 (by decide) ?_
  refine aw_sipush (v := 999) K dX6_name_2 (by decide) ?_
  refine aw_callS_I K (tX6_within l g sta _ _ _ _) rfl (by decide) fX6_within lX6_76 dX6_name_5 rfl (Nat.le_of_ble_eq_true rfl) ?_
  refine aw_if_ne (tgt := 13) K dX6_name_8 (by decide) (fun b8 => ?_) (fun b8 => ?_)
  · refine aw_al0 K dX6_name_13 ?_
    refine aw_getR K gX6_12 dX6_name_14 rfl rfl ?_
    refine aw_il1 K dX6_name_17 ?_
    refine aw_callV K (tX1_enter l g sta _ _ H) rfl (by decide) fX1_enter lX6_80 dX6_name_18 rfl clsX1 rfl (Nat.le_of_ble_eq_true rfl) (fun o h2 hq => ?_)
    obtain ⟨rfl, rfl⟩ := hq
    refine (show AW _ _ _ _ _ _ _ (.int _ :: _) _ from ?_)
    refine aw_iret K rfl dX6_name_21 ?_
    exact DPi (by rw [nameF, if_pos (bI_1.mp b8)])
  · refine aw_iconst (v := (-1)) K dX6_name_11 (by decide) ?_
    refine aw_iret K rfl dX6_name_12 ?_
    exact DPi (by rw [nameF, if_neg (bI_0.mp b8)])

def seedF (h : HS) (a b : Int32) : Int32 × HS := if 0 ≤ a ∧ a ≤ h.1 1 5 - 1 then (bI (¬ h.1 17 a.toNatClampNeg = 0), setI h 17 a.toNatClampNeg (vp_nar .boolean b)) else (-1, h)
set_option maxHeartbeats 4000000 in
set_option maxRecDepth 100000 in
theorem tX6_seed (l : Launch) (g : Geo) (sta : Nat → Nat) (h : HS) (a b : Int32) {N T Wn : Nat} (H : XW h N T Wn) : CT (wX l g sta) 7 mX6_seed [.ref (g.2.1 0), .int a, .int b] h (DP (seedF h a b)) := by
  refine CT.at [some (.ref (g.2.1 0)), some (.int a), some (.int b), none] 1 rfl (by decide) (Nat.le_of_ble_eq_true rfl) (fun k K => ?_)
  refine aw_al0 K dX6_seed_0 ?_
  refine aw_il1 K dX6_seed_1 ?_
  refine aw_callV_I K (tX6_isName l g sta _ _) rfl (by decide) fX6_isName lX6_84 dX6_seed_2 rfl clsX6 rfl (Nat.le_of_ble_eq_true rfl) ?_
  refine aw_if_ne (tgt := 10) K dX6_seed_5 (by decide) (fun b5 => ?_) (fun b5 => ?_)
  · have ha : vp_in a 12 := inN H.1.1 H.1.2 (by decide) (bI_1.mp b5)
    refine aw_al0 K dX6_seed_10 ?_
    refine aw_getR K gX6_12 dX6_seed_11 rfl rfl ?_
    refine aw_getR K gX6_88 dX6_seed_14 rfl rfl ?_
    refine aw_il1 K dX6_seed_17 ?_
    refine aw_zald K dX6_seed_18 rfl ha ?_
    refine aw_callS_I K (tX6_oneIf l g sta _ _) rfl (by decide) fX6_oneIf lX6_92 dX6_seed_19 rfl (Nat.le_of_ble_eq_true rfl) ?_
    refine aw_is3 K dX6_seed_22 (by decide) rfl ?_
    refine aw_al0 K dX6_seed_23 ?_
    refine aw_getR K gX6_12 dX6_seed_24 rfl rfl ?_
    refine aw_getR K gX6_88 dX6_seed_27 rfl rfl ?_
    refine aw_il1 K dX6_seed_30 ?_
    refine aw_il2 K dX6_seed_31 ?_
    refine aw_zast K dX6_seed_32 rfl ha ?_
    refine aw_il3 K dX6_seed_33 ?_
    refine aw_iret K rfl dX6_seed_34 ?_
    exact DPi (by rw [seedF, if_pos (bI_1.mp b5)])
  · refine aw_iconst (v := (-1)) K dX6_seed_8 (by decide) ?_
    refine aw_iret K rfl dX6_seed_9 ?_
    exact DPi (by rw [seedF, if_neg (bI_0.mp b5)])

def pledF (h : HS) (a b : Int32) : Int32 × HS := if (0 ≤ a ∧ a ≤ h.1 1 5 - 1) ∧ (1 ≤ b ∧ b ≤ 999) then (if h.1 18 a.toNatClampNeg = 0 then (plV (vX (setI h 20 a.toNatClampNeg (h.1 20 a.toNatClampNeg + b))) a.toNatClampNeg, setI h 20 a.toNatClampNeg (h.1 20 a.toNatClampNeg + b)) else (-2, h)) else (-1, h)
set_option maxHeartbeats 4000000 in
set_option maxRecDepth 100000 in
theorem tX6_pledge (l : Launch) (g : Geo) (sta : Nat → Nat) (h : HS) (a b : Int32) {N T Wn : Nat} (H : XW h N T Wn) : CT (wX l g sta) 7 mX6_pledge [.ref (g.2.1 0), .int a, .int b] h (DP (pledF h a b)) := by
  refine CT.at [some (.ref (g.2.1 0)), some (.int a), some (.int b)] 0 rfl (by decide) (Nat.le_of_ble_eq_true rfl) (fun k K => ?_)
  refine aw_al0 K dX6_pledge_0 ?_
  refine aw_il1 K dX6_pledge_1 ?_
  refine aw_callV_I K (tX6_isName l g sta _ _) rfl (by decide) fX6_isName lX6_84 dX6_pledge_2 rfl clsX6 rfl (Nat.le_of_ble_eq_true rfl) ?_
  refine aw_if_eq (tgt := 19) K dX6_pledge_5 (by decide) (fun b5 => ?_) (fun b5 => ?_)
  · refine aw_iconst (v := (-1)) K dX6_pledge_19 (by decide) ?_
    refine aw_iret K rfl dX6_pledge_20 ?_
    exact DPi (by rw [pledF, if_neg (fun q => bI_0.mp b5 q.1)])
  · refine aw_il2 K dX6_pledge_8 ?_
    refine aw_iconst (v := 1) K dX6_pledge_9 (by decide) ?_
    refine aw_sipush (v := 999) K dX6_pledge_10 (by decide) ?_
    refine aw_callS_I K (tX6_within l g sta _ _ _ _) rfl (by decide) fX6_within lX6_76 dX6_pledge_13 rfl (Nat.le_of_ble_eq_true rfl) ?_
    refine aw_if_ne (tgt := 21) K dX6_pledge_16 (by decide) (fun b16 => ?_) (fun b16 => ?_)
    · have ha : vp_in a 12 := inN H.1.1 H.1.2 (by decide) (bI_1.mp b5)
      refine aw_al0 K dX6_pledge_21 ?_
      refine aw_getR K gX6_12 dX6_pledge_22 rfl rfl ?_
      refine aw_getR K gX6_96 dX6_pledge_25 rfl rfl ?_
      refine aw_il1 K dX6_pledge_28 ?_
      refine aw_zald K dX6_pledge_29 rfl ha ?_
      refine aw_if_eq (tgt := 36) K dX6_pledge_30 (by decide) (fun b30 => ?_) (fun b30 => ?_)
      · refine aw_al0 K dX6_pledge_36 ?_
        refine aw_getR K gX6_12 dX6_pledge_37 rfl rfl ?_
        refine aw_getR K gX6_99 dX6_pledge_40 rfl rfl ?_
        refine aw_il1 K dX6_pledge_43 ?_
        refine aw_dup2_11 K dX6_pledge_44 rfl rfl ?_
        refine aw_iald K dX6_pledge_45 rfl ha ?_
        refine aw_il2 K dX6_pledge_46 ?_
        refine aw_iadd K dX6_pledge_47 ?_
        refine aw_iast K dX6_pledge_48 rfl ha ?_
        refine aw_al0 K dX6_pledge_49 ?_
        refine aw_il1 K dX6_pledge_50 ?_
        refine aw_callV_I K (tX6_pledgeRoom l g sta _ _ ha) rfl (by decide) fX6_pledgeRoom lX6_102 dX6_pledge_51 rfl clsX6 rfl (Nat.le_of_ble_eq_true rfl) ?_
        refine aw_iret K rfl dX6_pledge_54 ?_
        exact DPi (by rw [pledF, if_pos ⟨bI_1.mp b5, bI_1.mp b16⟩, if_pos b30])
      · refine aw_bipush (v := (-2)) K dX6_pledge_33 (by decide) ?_
        refine aw_iret K rfl dX6_pledge_35 ?_
        exact DPi (by rw [pledF, if_pos ⟨bI_1.mp b5, bI_1.mp b16⟩, if_neg b30])
    · refine aw_iconst (v := (-1)) K dX6_pledge_19 (by decide) ?_
      refine aw_iret K rfl dX6_pledge_20 ?_
      exact DPi (by rw [pledF, if_neg (fun q => bI_0.mp b16 q.2)])

def tenF (h : HS) (a b c e z : Int32) : Int32 × HS := if h.1 2 5 < 24 then (h.1 2 5, setI (setI (setI (setI (setI (setI h 21 (h.1 2 5).toNatClampNeg a) 22 (h.1 2 5).toNatClampNeg b) 23 (h.1 2 5).toNatClampNeg c) 24 (h.1 2 5).toNatClampNeg e) 25 (h.1 2 5).toNatClampNeg z) 2 5 (h.1 2 5 + 1)) else (-3, h)
def tieF (h : HS) (a b c e : Int32) : Int32 × HS := if ((0 ≤ a ∧ a ≤ h.1 1 5 - 1) ∧ (0 ≤ b ∧ b ≤ h.1 1 5 - 1) ∧ ¬ a = b) ∧ (1 ≤ c ∧ c ≤ 999) ∧ (0 ≤ e ∧ e ≤ 3) then (if h.1 2 5 < 24 then (if h.1 18 a.toNatClampNeg = 0 ∧ h.1 18 b.toNatClampNeg = 0 then tenF h a b c e (h.1 0 11) else (-2, h)) else (-3, h)) else (-1, h)
set_option maxHeartbeats 4000000 in
set_option maxRecDepth 100000 in
theorem tX4_enter (l : Launch) (g : Geo) (sta : Nat → Nat) (h : HS) (a b c e z : Int32) {N T Wn : Nat} (H : XW h N T Wn) : CT (wX l g sta) 6 mX4_enter [.ref (g.2.1 2), .int a, .int b, .int c, .int e, .int z] h (DP (tenF h a b c e z)) := by
  refine CT.at [some (.ref (g.2.1 2)), some (.int a), some (.int b), some (.int c), some (.int e), some (.int z)] 0 rfl (by decide) (Nat.le_of_ble_eq_true rfl) (fun k K => ?_)
  refine aw_al0 K dX4_enter_0 ?_
  refine aw_getI K gX4_27 dX4_enter_1 rfl rfl ?_
  refine aw_bipush (v := 24) K dX4_enter_4 (by decide) ?_
  refine aw_icmp_lt (tgt := 12) K dX4_enter_6 (by decide) (fun b6 => ?_) (fun b6 => ?_)
  · have hc : vp_in (h.1 2 5) 24 := inC H.2.1.1 (by have := H.2.1.2; omega) (by decide) b6
    refine aw_al0 K dX4_enter_12 ?_
    refine aw_getR K gX4_9 dX4_enter_13 rfl rfl ?_
    refine aw_al0 K dX4_enter_16 ?_
    refine aw_getI K gX4_27 dX4_enter_17 rfl rfl ?_
    refine aw_il1 K dX4_enter_20 ?_
    refine aw_iast K dX4_enter_21 rfl hc ?_
    refine aw_al0 K dX4_enter_22 ?_
    refine aw_getR K gX4_15 dX4_enter_23 rfl rfl ?_
    refine aw_al0 K dX4_enter_26 ?_
    refine aw_getI K gX4_27 dX4_enter_27 rfl rfl ?_
    refine aw_il2 K dX4_enter_30 ?_
    refine aw_iast K dX4_enter_31 rfl hc ?_
    refine aw_al0 K dX4_enter_32 ?_
    refine aw_getR K gX4_18 dX4_enter_33 rfl rfl ?_
    refine aw_al0 K dX4_enter_36 ?_
    refine aw_getI K gX4_27 dX4_enter_37 rfl rfl ?_
    refine aw_il3 K dX4_enter_40 ?_
    refine aw_iast K dX4_enter_41 rfl hc ?_
    refine aw_al0 K dX4_enter_42 ?_
    refine aw_getR K gX4_21 dX4_enter_43 rfl rfl ?_
    refine aw_al0 K dX4_enter_46 ?_
    refine aw_getI K gX4_27 dX4_enter_47 rfl rfl ?_
    refine aw_il4 K dX4_enter_50 ?_
    refine aw_iast K dX4_enter_52 rfl hc ?_
    refine aw_al0 K dX4_enter_53 ?_
    refine aw_getR K gX4_24 dX4_enter_54 rfl rfl ?_
    refine aw_al0 K dX4_enter_57 ?_
    refine aw_getI K gX4_27 dX4_enter_58 rfl rfl ?_
    refine aw_il5 K dX4_enter_61 ?_
    refine aw_iast K dX4_enter_63 rfl hc ?_
    refine aw_al0 K dX4_enter_64 ?_
    refine aw_dup K dX4_enter_65 rfl ?_
    refine aw_getI K gX4_27 dX4_enter_66 rfl rfl ?_
    refine aw_dup_x1 K dX4_enter_69 rfl rfl ?_
    refine aw_iconst (v := 1) K dX4_enter_70 (by decide) ?_
    refine aw_iadd K dX4_enter_71 ?_
    refine aw_putI K gX4_27 fpX4_5 dX4_enter_72 rfl rfl ?_
    refine aw_iret K rfl dX4_enter_75 ?_
    exact DPi (by rw [tenF, if_pos b6]; rfl)
  · refine aw_bipush (v := (-3)) K dX4_enter_9 (by decide) ?_
    refine aw_iret K rfl dX4_enter_11 ?_
    exact DPi (by rw [tenF, if_neg b6])

set_option maxHeartbeats 4000000 in
set_option maxRecDepth 100000 in
theorem tX6_tie (l : Launch) (g : Geo) (sta : Nat → Nat) (h : HS) (a b c e : Int32) {N T Wn : Nat} (H : XW h N T Wn) : CT (wX l g sta) 7 mX6_tie [.ref (g.2.1 0), .int a, .int b, .int c, .int e] h (DP (tieF h a b c e)) := by
  refine CT.at [some (.ref (g.2.1 0)), some (.int a), some (.int b), some (.int c), some (.int e)] 0 rfl (by decide) (Nat.le_of_ble_eq_true rfl) (fun k K => ?_)
  refine aw_al0 K dX6_tie_0 ?_
  refine aw_il1 K dX6_tie_1 ?_
  refine aw_il2 K dX6_tie_2 ?_
  refine aw_callV_I K (tX6_arePair l g sta _ _ _) rfl (by decide) fX6_arePair lX6_105 dX6_tie_3 rfl clsX6 rfl (Nat.le_of_ble_eq_true rfl) ?_
  refine aw_if_eq (tgt := 30) K dX6_tie_6 (by decide) (fun b6 => ?_) (fun b6 => ?_)
  · refine aw_iconst (v := (-1)) K dX6_tie_30 (by decide) ?_
    refine aw_iret K rfl dX6_tie_31 ?_
    exact DPi (by rw [tieF, if_neg (fun q => bI_0.mp b6 q.1)])
  · refine aw_il3 K dX6_tie_9 ?_
    refine aw_iconst (v := 1) K dX6_tie_10 (by decide) ?_
    refine aw_sipush (v := 999) K dX6_tie_11 (by decide) ?_
    refine aw_callS_I K (tX6_within l g sta _ _ _ _) rfl (by decide) fX6_within lX6_76 dX6_tie_14 rfl (Nat.le_of_ble_eq_true rfl) ?_
    refine aw_if_eq (tgt := 30) K dX6_tie_17 (by decide) (fun b17 => ?_) (fun b17 => ?_)
    · refine aw_iconst (v := (-1)) K dX6_tie_30 (by decide) ?_
      refine aw_iret K rfl dX6_tie_31 ?_
      exact DPi (by rw [tieF, if_neg (fun q => bI_0.mp b17 q.2.1)])
    · refine aw_il4 K dX6_tie_20 ?_
      refine aw_iconst (v := 0) K dX6_tie_22 (by decide) ?_
      refine aw_iconst (v := 3) K dX6_tie_23 (by decide) ?_
      refine aw_callS_I K (tX6_within l g sta _ _ _ _) rfl (by decide) fX6_within lX6_76 dX6_tie_24 rfl (Nat.le_of_ble_eq_true rfl) ?_
      refine aw_if_ne (tgt := 32) K dX6_tie_27 (by decide) (fun b27 => ?_) (fun b27 => ?_)
      · have ha : vp_in a 12 := inN H.1.1 H.1.2 (by decide) (bI_1.mp b6).1
        have hb : vp_in b 12 := inN H.1.1 H.1.2 (by decide) (bI_1.mp b6).2.1
        refine aw_al0 K dX6_tie_32 ?_
        refine aw_getR K gX6_19 dX6_tie_33 rfl rfl ?_
        refine aw_getI K gX6_109 dX6_tie_36 rfl rfl ?_
        refine aw_bipush (v := 24) K dX6_tie_39 (by decide) ?_
        refine aw_icmp_lt (tgt := 47) K dX6_tie_41 (by decide) (fun b41 => ?_) (fun b41 => ?_)
        · refine aw_al0 K dX6_tie_47 ?_
          refine aw_getR K gX6_12 dX6_tie_48 rfl rfl ?_
          refine aw_getR K gX6_96 dX6_tie_51 rfl rfl ?_
          refine aw_il1 K dX6_tie_54 ?_
          refine aw_zald K dX6_tie_55 rfl ha ?_
          refine aw_if_ne (tgt := 71) K dX6_tie_56 (by decide) (fun b56 => ?_) (fun b56 => ?_)
          · refine aw_bipush (v := (-2)) K dX6_tie_71 (by decide) ?_
            refine aw_iret K rfl dX6_tie_73 ?_
            exact DPi (by rw [tieF, if_pos ⟨bI_1.mp b6, bI_1.mp b17, bI_1.mp b27⟩, if_pos b41, if_neg (fun q => b56 q.1)])
          · refine aw_al0 K dX6_tie_59 ?_
            refine aw_getR K gX6_12 dX6_tie_60 rfl rfl ?_
            refine aw_getR K gX6_96 dX6_tie_63 rfl rfl ?_
            refine aw_il2 K dX6_tie_66 ?_
            refine aw_zald K dX6_tie_67 rfl hb ?_
            refine aw_if_eq (tgt := 74) K dX6_tie_68 (by decide) (fun b68 => ?_) (fun b68 => ?_)
            · refine aw_al0 K dX6_tie_74 ?_
              refine aw_getR K gX6_19 dX6_tie_75 rfl rfl ?_
              refine aw_il1 K dX6_tie_78 ?_
              refine aw_il2 K dX6_tie_79 ?_
              refine aw_il3 K dX6_tie_80 ?_
              refine aw_il4 K dX6_tie_81 ?_
              refine aw_al0 K dX6_tie_83 ?_
              refine aw_getI K gX6_113 dX6_tie_84 rfl rfl ?_
              refine aw_callV K (tX4_enter l g sta _ _ _ _ _ _ H) rfl (by decide) fX4_enter lX6_116 dX6_tie_87 rfl clsX4 rfl (Nat.le_of_ble_eq_true rfl) (fun o h2 hq => ?_)
              obtain ⟨rfl, rfl⟩ := hq
              refine (show AW _ _ _ _ _ _ _ (.int _ :: _) _ from ?_)
              refine aw_iret K rfl dX6_tie_90 ?_
              exact DPi (by rw [tieF, if_pos ⟨bI_1.mp b6, bI_1.mp b17, bI_1.mp b27⟩, if_pos b41, if_pos ⟨b56, b68⟩])
            · refine aw_bipush (v := (-2)) K dX6_tie_71 (by decide) ?_
              refine aw_iret K rfl dX6_tie_73 ?_
              exact DPi (by rw [tieF, if_pos ⟨bI_1.mp b6, bI_1.mp b17, bI_1.mp b27⟩, if_pos b41, if_neg (fun q => b68 q.2)])
        · refine aw_bipush (v := (-3)) K dX6_tie_44 (by decide) ?_
          refine aw_iret K rfl dX6_tie_46 ?_
          exact DPi (by rw [tieF, if_pos ⟨bI_1.mp b6, bI_1.mp b17, bI_1.mp b27⟩, if_neg b41])
      · refine aw_iconst (v := (-1)) K dX6_tie_30 (by decide) ?_
        refine aw_iret K rfl dX6_tie_31 ?_
        exact DPi (by rw [tieF, if_neg (fun q => bI_0.mp b27 q.2.2)])

def renF (h : HS) (a : Int32) : Int32 × HS := if 0 ≤ a ∧ a ≤ h.1 2 5 - 1 then (if ¬ vX h 3 (vX h 6 a.toNatClampNeg).toNatClampNeg = 0 ∨ ¬ vX h 3 (vX h 7 a.toNatClampNeg).toNatClampNeg = 0 then (-2, h) else (h.1 0 11 - h.1 25 a.toNatClampNeg, setI h 25 a.toNatClampNeg (h.1 0 11))) else (-1, h)
def dayF (h : HS) (a : Int32) : Int32 × HS := if h.1 0 11 ≤ a ∧ a ≤ 9999 then (h.1 0 11, setI h 0 11 a) else (-1, h)
def endF (h : HS) (a : Int32) : Int32 × HS := if 0 ≤ a ∧ a ≤ h.1 4 1 then (h.1 4 1, setI h 4 1 a) else (-1, h)
set_option maxHeartbeats 4000000 in
set_option maxRecDepth 100000 in
theorem tX6_renew (l : Launch) (g : Geo) (sta : Nat → Nat) (h : HS) (a : Int32) {N T Wn : Nat} (H : XW h N T Wn) : CT (wX l g sta) 7 mX6_renew [.ref (g.2.1 0), .int a] h (DP (renF h a)) := by
  refine CT.at [some (.ref (g.2.1 0)), some (.int a), none] 1 rfl (by decide) (Nat.le_of_ble_eq_true rfl) (fun k K => ?_)
  refine aw_al0 K dX6_renew_0 ?_
  refine aw_il1 K dX6_renew_1 ?_
  refine aw_callV_I K (tX6_isTie l g sta _ _) rfl (by decide) fX6_isTie lX6_119 dX6_renew_2 rfl clsX6 rfl (Nat.le_of_ble_eq_true rfl) ?_
  refine aw_if_ne (tgt := 10) K dX6_renew_5 (by decide) (fun b5 => ?_) (fun b5 => ?_)
  · have ha : vp_in a 24 := inN H.2.1.1 H.2.1.2 (by decide) (bI_1.mp b5)
    refine aw_al0 K dX6_renew_10 ?_
    refine aw_il1 K dX6_renew_11 ?_
    refine aw_callV_I K (tX6_hasMadeEnd l g sta _ _ ha H.2.2.2.1 H.2.2.2.2.1) rfl (by decide) fX6_hasMadeEnd lX6_140 dX6_renew_12 rfl clsX6 rfl (Nat.le_of_ble_eq_true rfl) ?_
    refine aw_if_eq (tgt := 21) K dX6_renew_15 (by decide) (fun b15 => ?_) (fun b15 => ?_)
    · refine aw_al0 K dX6_renew_21 ?_
      refine aw_getI K gX6_113 dX6_renew_22 rfl rfl ?_
      refine aw_al0 K dX6_renew_25 ?_
      refine aw_getR K gX6_19 dX6_renew_26 rfl rfl ?_
      refine aw_getR K gX6_134 dX6_renew_29 rfl rfl ?_
      refine aw_il1 K dX6_renew_32 ?_
      refine aw_iald K dX6_renew_33 rfl ha ?_
      refine aw_isub K dX6_renew_34 ?_
      refine aw_is2 K dX6_renew_35 (by decide) rfl ?_
      refine aw_al0 K dX6_renew_36 ?_
      refine aw_getR K gX6_19 dX6_renew_37 rfl rfl ?_
      refine aw_getR K gX6_134 dX6_renew_40 rfl rfl ?_
      refine aw_il1 K dX6_renew_43 ?_
      refine aw_al0 K dX6_renew_44 ?_
      refine aw_getI K gX6_113 dX6_renew_45 rfl rfl ?_
      refine aw_iast K dX6_renew_48 rfl ha ?_
      refine aw_il2 K dX6_renew_49 ?_
      refine aw_iret K rfl dX6_renew_50 ?_
      exact DPi (by rw [renF, if_pos (bI_1.mp b5), if_neg (bI_0.mp b15)])
    · refine aw_bipush (v := (-2)) K dX6_renew_18 (by decide) ?_
      refine aw_iret K rfl dX6_renew_20 ?_
      exact DPi (by rw [renF, if_pos (bI_1.mp b5), if_pos (bI_1.mp b15)])
  · refine aw_iconst (v := (-1)) K dX6_renew_8 (by decide) ?_
    refine aw_iret K rfl dX6_renew_9 ?_
    exact DPi (by rw [renF, if_neg (bI_0.mp b5)])

set_option maxHeartbeats 4000000 in
set_option maxRecDepth 100000 in
theorem tX6_day (l : Launch) (g : Geo) (sta : Nat → Nat) (h : HS) (a : Int32) : CT (wX l g sta) 7 mX6_day [.ref (g.2.1 0), .int a] h (DP (dayF h a)) := by
  refine CT.at [some (.ref (g.2.1 0)), some (.int a), none] 1 rfl (by decide) (Nat.le_of_ble_eq_true rfl) (fun k K => ?_)
  refine aw_il1 K dX6_day_0 ?_
  refine aw_al0 K dX6_day_1 ?_
  refine aw_getI K gX6_113 dX6_day_2 rfl rfl ?_
  refine aw_sipush (v := 9999) K dX6_day_5 (by decide) ?_
  refine aw_callS_I K (tX6_within l g sta _ _ _ _) rfl (by decide) fX6_within lX6_76 dX6_day_8 rfl (Nat.le_of_ble_eq_true rfl) ?_
  refine aw_if_ne (tgt := 16) K dX6_day_11 (by decide) (fun b11 => ?_) (fun b11 => ?_)
  · refine aw_al0 K dX6_day_16 ?_
    refine aw_getI K gX6_113 dX6_day_17 rfl rfl ?_
    refine aw_is2 K dX6_day_20 (by decide) rfl ?_
    refine aw_al0 K dX6_day_21 ?_
    refine aw_il1 K dX6_day_22 ?_
    refine aw_putI K gX6_113 fpX6_11 dX6_day_23 rfl rfl ?_
    refine aw_il2 K dX6_day_26 ?_
    refine aw_iret K rfl dX6_day_27 ?_
    exact DPi (by rw [dayF, if_pos (bI_1.mp b11)])
  · refine aw_iconst (v := (-1)) K dX6_day_14 (by decide) ?_
    refine aw_iret K rfl dX6_day_15 ?_
    exact DPi (by rw [dayF, if_neg (bI_0.mp b11)])

set_option maxHeartbeats 4000000 in
set_option maxRecDepth 100000 in
theorem tX6_end (l : Launch) (g : Geo) (sta : Nat → Nat) (h : HS) (a : Int32) : CT (wX l g sta) 7 mX6_end [.ref (g.2.1 0), .int a] h (DP (endF h a)) := by
  refine CT.at [some (.ref (g.2.1 0)), some (.int a), none] 1 rfl (by decide) (Nat.le_of_ble_eq_true rfl) (fun k K => ?_)
  refine aw_il1 K dX6_end_0 ?_
  refine aw_iconst (v := 0) K dX6_end_1 (by decide) ?_
  refine aw_al0 K dX6_end_2 ?_
  refine aw_getR K gX6_33 dX6_end_3 rfl rfl ?_
  refine aw_getI K gX6_180 dX6_end_6 rfl rfl ?_
  refine aw_callS_I K (tX6_within l g sta _ _ _ _) rfl (by decide) fX6_within lX6_76 dX6_end_9 rfl (Nat.le_of_ble_eq_true rfl) ?_
  refine aw_if_ne (tgt := 17) K dX6_end_12 (by decide) (fun b12 => ?_) (fun b12 => ?_)
  · refine aw_al0 K dX6_end_17 ?_
    refine aw_getR K gX6_33 dX6_end_18 rfl rfl ?_
    refine aw_getI K gX6_180 dX6_end_21 rfl rfl ?_
    refine aw_is2 K dX6_end_24 (by decide) rfl ?_
    refine aw_al0 K dX6_end_25 ?_
    refine aw_getR K gX6_33 dX6_end_26 rfl rfl ?_
    refine aw_il1 K dX6_end_29 ?_
    refine aw_putI K gX6_180 fpX3_1 dX6_end_30 rfl rfl ?_
    refine aw_il2 K dX6_end_33 ?_
    refine aw_iret K rfl dX6_end_34 ?_
    exact DPi (by rw [endF, if_pos (bI_1.mp b12)])
  · refine aw_iconst (v := (-1)) K dX6_end_15 (by decide) ?_
    refine aw_iret K rfl dX6_end_16 ?_
    exact DPi (by rw [endF, if_neg (bI_0.mp b12)])

def us (x y : Int32) : Int32 := (x.toUInt32 >>> (y.toUInt32 &&& Int32.toUInt32 31)).toInt32
def bc1 (x : Int32) : Int32 := x - (us x 1 &&& 1431655765)
def bc2 (x : Int32) : Int32 := (x &&& 858993459) + (us x 2 &&& 858993459)
def bc3 (x : Int32) : Int32 := (x + us x 4) &&& 252645135
def bc4 (x : Int32) : Int32 := x + us x 8
def bc5 (x : Int32) : Int32 := x + us x 16
def bcV (x : Int32) : Int32 := bc5 (bc4 (bc3 (bc2 (bc1 x)))) &&& 63
theorem set_set {h : HS} {c j : Nat} {f : Nat → Int32} {v : Int32} : setI (setR h c f) c j v = setR h c (upd f j v) := by
  refine Prod.ext ?_ rfl
  funext a
  show (if a = c then upd ((setR h c f).1 c) j v else (setR h c f).1 a) = if a = c then upd f j v else h.1 a
  split
  · rw [rdR, if_pos rfl]
  · rename_i q
    rw [rdR, if_neg q]
theorem setR_e {h : HS} {c : Nat} {f : Nat → Int32} (e : f = h.1 c) : setR h c f = h := by
  refine Prod.ext ?_ rfl
  funext a
  show (if a = c then f else h.1 a) = h.1 a
  split
  · rename_i q
    rw [e, q]
  · rfl
set_option maxHeartbeats 4000000 in
set_option maxRecDepth 100000 in
theorem tJ6b (l : Launch) (g : Geo) (sta : Nat → Nat) (h : HS) (a : Int32) : CT (wX l g sta) 1 mJ6_bitCount_0f7a4 [.int a] h (DI (bcV a) h) := by
  refine CT.at [some (.int a)] 0 rfl (by decide) (Nat.le_of_ble_eq_true rfl) (fun k K => ?_)
  refine aw_il0 K dJ6_bitCount_0f7a4_0 ?_
  refine aw_il0 K dJ6_bitCount_0f7a4_1 ?_
  refine aw_iconst (v := 1) K dJ6_bitCount_0f7a4_2 (by decide) ?_
  refine aw_iushr K dJ6_bitCount_0f7a4_3 ?_
  refine aw_ldcw K qJ6_265 dJ6_bitCount_0f7a4_4 ?_
  refine aw_iand K dJ6_bitCount_0f7a4_7 ?_
  refine aw_isub K dJ6_bitCount_0f7a4_8 ?_
  refine aw_is0 K dJ6_bitCount_0f7a4_9 (by decide) ?_
  refine aw_il0 K dJ6_bitCount_0f7a4_10 ?_
  refine aw_ldcw K qJ6_266 dJ6_bitCount_0f7a4_11 ?_
  refine aw_iand K dJ6_bitCount_0f7a4_14 ?_
  refine aw_il0 K dJ6_bitCount_0f7a4_15 ?_
  refine aw_iconst (v := 2) K dJ6_bitCount_0f7a4_16 (by decide) ?_
  refine aw_iushr K dJ6_bitCount_0f7a4_17 ?_
  refine aw_ldcw K qJ6_266 dJ6_bitCount_0f7a4_18 ?_
  refine aw_iand K dJ6_bitCount_0f7a4_21 ?_
  refine aw_iadd K dJ6_bitCount_0f7a4_22 ?_
  refine aw_is0 K dJ6_bitCount_0f7a4_23 (by decide) ?_
  refine aw_il0 K dJ6_bitCount_0f7a4_24 ?_
  refine aw_il0 K dJ6_bitCount_0f7a4_25 ?_
  refine aw_iconst (v := 4) K dJ6_bitCount_0f7a4_26 (by decide) ?_
  refine aw_iushr K dJ6_bitCount_0f7a4_27 ?_
  refine aw_iadd K dJ6_bitCount_0f7a4_28 ?_
  refine aw_ldcw K qJ6_267 dJ6_bitCount_0f7a4_29 ?_
  refine aw_iand K dJ6_bitCount_0f7a4_32 ?_
  refine aw_is0 K dJ6_bitCount_0f7a4_33 (by decide) ?_
  refine aw_il0 K dJ6_bitCount_0f7a4_34 ?_
  refine aw_il0 K dJ6_bitCount_0f7a4_35 ?_
  refine aw_bipush (v := 8) K dJ6_bitCount_0f7a4_36 (by decide) ?_
  refine aw_iushr K dJ6_bitCount_0f7a4_38 ?_
  refine aw_iadd K dJ6_bitCount_0f7a4_39 ?_
  refine aw_is0 K dJ6_bitCount_0f7a4_40 (by decide) ?_
  refine aw_il0 K dJ6_bitCount_0f7a4_41 ?_
  refine aw_il0 K dJ6_bitCount_0f7a4_42 ?_
  refine aw_bipush (v := 16) K dJ6_bitCount_0f7a4_43 (by decide) ?_
  refine aw_iushr K dJ6_bitCount_0f7a4_45 ?_
  refine aw_iadd K dJ6_bitCount_0f7a4_46 ?_
  refine aw_is0 K dJ6_bitCount_0f7a4_47 (by decide) ?_
  refine aw_il0 K dJ6_bitCount_0f7a4_48 ?_
  refine aw_bipush (v := 63) K dJ6_bitCount_0f7a4_49 (by decide) ?_
  refine aw_iand K dJ6_bitCount_0f7a4_51 ?_
  refine aw_iret K rfl dJ6_bitCount_0f7a4_52 ?_
  exact ⟨rfl, rfl⟩

def stF (h : HS) (a : Int32) (T : Nat) : Int32 := orU (fun t => if h.1 24 t = 2 ∧ h.1 22 t = a ∧ h.1 18 (h.1 21 t).toNatClampNeg = 0 then (1 : Int32) <<< (h.1 21 t &&& 31) else 0) T
/-- the fines: who stood for the unmasked one -/
def finR (h : HS) (s : Int32) (i : Nat) : Nat → Int32 := fun j => if j < i ∧ ¬ (s >>> (nI j &&& 31)) &&& 1 = 0 then (if h.1 19 j < h.1 0 11 + h.1 11 8 then h.1 0 11 + h.1 11 8 else h.1 19 j) else h.1 19 j
theorem finR_0 (h : HS) (s : Int32) : finR h s 0 = h.1 19 := by
  funext j
  exact if_neg (fun q => absurd q.1 (Nat.not_lt_zero _))
theorem finR_s (h : HS) (s : Int32) (i : Nat) (q : ¬ (s >>> (nI i &&& 31)) &&& 1 = 0) : upd (finR h s i) i (if finR h s i i < h.1 0 11 + h.1 11 8 then h.1 0 11 + h.1 11 8 else finR h s i i) = finR h s (i + 1) := by
  have e : finR h s i i = h.1 19 i := if_neg (fun z => absurd z.1 (Nat.lt_irrefl _))
  funext j
  show (if j = i then _ else _) = _
  split
  · rename_i z
    subst z
    rw [e]
    exact (if_pos ⟨Nat.lt_succ_self _, q⟩).symm
  · rename_i z
    unfold finR
    by_cases y : j < i
    · simp only [y, Nat.lt_succ_of_lt y, true_and]
    · rw [if_neg (fun p => y p.1), if_neg (fun p => y (by omega))]
theorem finR_n (h : HS) (s : Int32) (i : Nat) (q : (s >>> (nI i &&& 31)) &&& 1 = 0) : finR h s i = finR h s (i + 1) := by
  funext j
  unfold finR
  by_cases y : j < i
  · simp only [y, Nat.lt_succ_of_lt y, true_and]
  · rw [if_neg (fun p => y p.1)]
    by_cases z : j = i
    · subst z
      rw [if_neg (fun p => p.2 q)]
    · rw [if_neg (fun p => z (by omega))]
def madF (h : HS) (a : Int32) (N T : Nat) : Int32 × HS := if 0 ≤ a ∧ a ≤ h.1 1 5 - 1 then (if h.1 18 a.toNatClampNeg = 0 then (bcV (stF (setI h 18 a.toNatClampNeg (vp_nar .boolean 1)) a T), setR (setI h 18 a.toNatClampNeg (vp_nar .boolean 1)) 19 (finR (setI h 18 a.toNatClampNeg (vp_nar .boolean 1)) (stF (setI h 18 a.toNatClampNeg (vp_nar .boolean 1)) a T) N)) else (-2, h)) else (-1, h)
set_option maxHeartbeats 4000000 in
set_option maxRecDepth 100000 in
theorem lpX6_made {l : Launch} {g : Geo} {sta : Nat → Nat} {k : KT} (K : AOK (wX l g sta) mX6_made k) (h : HS) (a s : Int32) {N T Wn : Nat} (H : XW h N T Wn) :
    ∀ (n i : Nat), i ≤ N → N - i < n → AW (wX l g sta) (DP (bcV s, setR h 19 (finR h s N))) 7 mX6_made k 43 [some (.ref (g.2.1 0)), some (.int a), some (.int s), some (.int (nI i))] [] (setR h 19 (finR h s i)) := by
  intro n
  induction n with
  | zero => intro i h1 h2; omega
  | succ n ih =>
    intro i h1 h2
    have hN := H.1.2
    refine aw_il3 K dX6_made_43 ?_
    refine aw_al0 K dX6_made_44 ?_
    refine aw_getR K gX6_12 dX6_made_45 rfl rfl ?_
    refine aw_getI K gX6_161 dX6_made_48 rfl rfl ?_
    rw [show (setR h 19 (finR h s i)).1 1 5 = nI N from H.1.1]
    refine aw_icmp_ge (tgt := 101) K dX6_made_51 (by decide) (fun b51 => ?_) (fun b51 => ?_)
    · have hiN : i = N := by
        have := (nI_leI (a := N) (by omega) (by omega : i < 2 ^ 31)).mp b51
        omega
      subst hiN
      refine aw_il2 K dX6_made_101 ?_
      refine aw_callS_I K (tJ6b l g sta _ _) rfl (by decide) fJ6_bitCount_0f7a4 lX6_171 dX6_made_102 rfl (Nat.le_of_ble_eq_true rfl) ?_
      refine aw_iret K rfl dX6_made_105 ?_
      exact DPi rfl
    · have hlt : i < N := by
        rcases Nat.lt_or_ge i N with q | q
        · exact q
        · exact absurd (nI_le (a := N) q (by omega)) b51
      refine aw_il2 K dX6_made_54 ?_
      refine aw_il3 K dX6_made_55 ?_
      refine aw_callS_I K (tX6_hasBit l g sta _ _ _) rfl (by decide) fX6_hasBit lX6_162 dX6_made_56 rfl (Nat.le_of_ble_eq_true rfl) ?_
      refine aw_if_eq (tgt := 95) K dX6_made_59 (by decide) (fun b59 => ?_) (fun b59 => ?_)
      · refine aw_ii3 (v := _ + 1) K dX6_made_95 rfl (by decide) rfl ?_
        refine aw_goto (tgt := 43) K dX6_made_98 (by decide) ?_
        rw [nI_1, finR_n h s i (Classical.not_not.mp (bI_0.mp b59))]
        exact ih (i + 1) (by omega) (by omega)
      · refine aw_al0 K dX6_made_62 ?_
        refine aw_getR K gX6_12 dX6_made_63 rfl rfl ?_
        refine aw_getR K gX6_149 dX6_made_66 rfl rfl ?_
        refine aw_il3 K dX6_made_69 ?_
        refine aw_al0 K dX6_made_70 ?_
        refine aw_getR K gX6_12 dX6_made_71 rfl rfl ?_
        refine aw_getR K gX6_149 dX6_made_74 rfl rfl ?_
        refine aw_il3 K dX6_made_77 ?_
        refine aw_iald K dX6_made_78 rfl (vp_in_nI (by omega) (by decide)) ?_
        refine aw_al0 K dX6_made_79 ?_
        refine aw_getI K gX6_113 dX6_made_80 rfl rfl ?_
        refine aw_al0 K dX6_made_83 ?_
        refine aw_getR K gX6_50 dX6_made_84 rfl rfl ?_
        refine aw_bipush (v := 8) K dX6_made_87 (by decide) ?_
        refine aw_iald K dX6_made_89 rfl (vp_in_nI (n := 8) (by decide) (by decide)) ?_
        refine aw_iadd K dX6_made_90 ?_
        refine aw_mmax K (aw_in 393 (by decide +kernel) rfl) cw_max1 cw_max2 cw_max3 (by decide) (Nat.le_of_ble_eq_true rfl) dX6_made_91 ?_
        refine aw_iast K dX6_made_94 rfl (vp_in_nI (by omega) (by decide)) ?_
        refine aw_ii3 (v := _ + 1) K dX6_made_95 rfl (by decide) rfl ?_
        refine aw_goto (tgt := 43) K dX6_made_98 (by decide) ?_
        rw [nI_1, nI_clamp (show i < 2 ^ 31 by omega), set_set]
        refine (show AW _ _ _ _ _ _ _ _ (setR h 19 (upd (finR h s i) i (if finR h s i i < h.1 0 11 + h.1 11 8 then h.1 0 11 + h.1 11 8 else finR h s i i))) from ?_)
        rw [finR_s h s i (bI_1.mp b59)]
        exact ih (i + 1) (by omega) (by omega)
theorem XW.e {h h' : HS} {N T Wn : Nat} (H : XW h N T Wn) (e : ∀ c, c = 1 ∨ c = 2 ∨ c = 3 ∨ c = 21 ∨ c = 22 ∨ c = 24 ∨ c = 26 ∨ c = 27 ∨ c = 38 → h'.1 c = h.1 c) : XW h' N T Wn := by
  unfold XW
  rw [e 1 (by decide), e 2 (by decide), e 3 (by decide), e 21 (by decide), e 22 (by decide), e 24 (by decide), e 26 (by decide), e 27 (by decide), e 38 (by decide)]
  exact H
theorem XW.pt {h : HS} {N T Wn c j : Nat} {v : Int32} (H : XW h N T Wn) (hc : (c == 1 || c == 2 || c == 3 || c == 21 || c == 22 || c == 24 || c == 26 || c == 27 || c == 38) = false) : XW (setI h c j v) N T Wn := by
  refine H.e (fun a ha => ?_)
  show (setR h c _).1 a = _
  rw [rdR, if_neg]
  intro q
  subst q
  rcases ha with rfl | rfl | rfl | rfl | rfl | rfl | rfl | rfl | rfl <;> cases hc
set_option maxHeartbeats 4000000 in
set_option maxRecDepth 100000 in
theorem tX6_made (l : Launch) (g : Geo) (sta : Nat → Nat) (h : HS) (a : Int32) {N T Wn : Nat} (H : XW h N T Wn) : CT (wX l g sta) 7 mX6_made [.ref (g.2.1 0), .int a] h (DP (madF h a N T)) := by
  refine CT.at [some (.ref (g.2.1 0)), some (.int a), none, none] 2 rfl (by decide) (Nat.le_of_ble_eq_true rfl) (fun k K => ?_)
  refine aw_al0 K dX6_made_0 ?_
  refine aw_il1 K dX6_made_1 ?_
  refine aw_callV_I K (tX6_isName l g sta _ _) rfl (by decide) fX6_isName lX6_84 dX6_made_2 rfl clsX6 rfl (Nat.le_of_ble_eq_true rfl) ?_
  refine aw_if_ne (tgt := 10) K dX6_made_5 (by decide) (fun b5 => ?_) (fun b5 => ?_)
  · have ha : vp_in a 12 := inN H.1.1 H.1.2 (by decide) (bI_1.mp b5)
    refine aw_al0 K dX6_made_10 ?_
    refine aw_getR K gX6_12 dX6_made_11 rfl rfl ?_
    refine aw_getR K gX6_96 dX6_made_14 rfl rfl ?_
    refine aw_il1 K dX6_made_17 ?_
    refine aw_zald K dX6_made_18 rfl ha ?_
    refine aw_if_eq (tgt := 25) K dX6_made_19 (by decide) (fun b19 => ?_) (fun b19 => ?_)
    · refine aw_al0 K dX6_made_25 ?_
      refine aw_getR K gX6_12 dX6_made_26 rfl rfl ?_
      refine aw_getR K gX6_96 dX6_made_29 rfl rfl ?_
      refine aw_il1 K dX6_made_32 ?_
      refine aw_iconst (v := 1) K dX6_made_33 (by decide) ?_
      refine aw_zast K dX6_made_34 rfl ha ?_
      refine aw_al0 K dX6_made_35 ?_
      refine aw_il1 K dX6_made_36 ?_
      have H2 : XW (setI h 18 a.toNatClampNeg (vp_nar .boolean 1)) N T Wn := H.pt rfl
      refine aw_callV_I K (tX6_standingFor l g sta _ _ H2) rfl (by decide) fX6_standingFor lX6_158 dX6_made_37 rfl clsX6 rfl (Nat.le_of_ble_eq_true rfl) ?_
      refine aw_is2 K dX6_made_40 (by decide) rfl ?_
      refine aw_iconst (v := 0) K dX6_made_41 (by decide) ?_
      refine aw_is3 K dX6_made_42 (by decide) rfl ?_
      rw [show madF h a N T = _ from (by rw [madF, if_pos (bI_1.mp b5), if_pos b19])]
      have z := lpX6_made K _ a (stF (setI h 18 a.toNatClampNeg (vp_nar .boolean 1)) a T) H2 (N + 1) 0 (by omega) (by omega)
      rw [setR_e (finR_0 _ _)] at z
      exact z
    · refine aw_bipush (v := (-2)) K dX6_made_22 (by decide) ?_
      refine aw_iret K rfl dX6_made_24 ?_
      exact DPi (by rw [madF, if_pos (bI_1.mp b5), if_neg b19])
  · refine aw_iconst (v := (-1)) K dX6_made_8 (by decide) ?_
    refine aw_iret K rfl dX6_made_9 ?_
    exact DPi (by rw [madF, if_neg (bI_0.mp b5)])

def byt (x : Int64) (c : Int32) : Int32 := (x.toUInt64 >>> (c.toInt64.toUInt64 &&& Int64.toUInt64 63)).toInt64.toInt32 &&& 255
def fdX (h : HS) (x : Int64) : Nat → HS
  | 0 => h
  | k + 1 => setI (setI (fdX h x k) 33 ((fdX h x k).1 4 1).toNatClampNeg (byt x (56 - 8 * nI k))) 4 1 ((fdX h x k).1 4 1 + 1)
theorem fdX_l (h : HS) (x : Int64) {L : Nat} (e : h.1 4 1 = nI L) : ∀ k, (fdX h x k).1 4 1 = nI (L + k)
  | 0 => e
  | k + 1 => by
    show (setI _ 4 1 _).1 4 1 = _
    rw [rdI, if_pos ⟨rfl, rfl⟩, fdX_l h x e k, nI_1]
    rfl
def feedF (h : HS) (x : Int64) : Int32 × HS := if h.1 4 1 ≤ 192 then ((fdX h x 8).1 4 1, fdX h x 8) else (-3, h)
set_option maxHeartbeats 4000000 in
set_option maxRecDepth 100000 in
theorem lp8X3_takeEight {l : Launch} {g : Geo} {sta : Nat → Nat} {k : KT} (K : AOK (wX l g sta) mX3_takeEight k) (h : HS) (x : Int64) {L : Nat} (e : h.1 4 1 = nI L) (hL : L ≤ 192) :
    AW (wX l g sta) (DP ((fdX h x 8).1 4 1, fdX h x 8)) 6 mX3_takeEight k 16 [some (.ref (g.2.1 4)), some (.long x), none, some (.int (-8))] [] (fdX h x 8) := by
  refine aw_il3 K dX3_takeEight_16 ?_
  refine aw_if_lt (tgt := 53) K dX3_takeEight_17 (by decide) (fun b17 => ?_) (fun b17 => ?_)
  · refine aw_al0 K dX3_takeEight_53 ?_
    refine aw_getI K gX3_15 dX3_takeEight_54 rfl rfl ?_
    refine aw_iret K rfl dX3_takeEight_57 ?_
    exact DPi rfl
  · exact absurd (by decide) b17
set_option maxHeartbeats 4000000 in
set_option maxRecDepth 100000 in
theorem lp7X3_takeEight {l : Launch} {g : Geo} {sta : Nat → Nat} {k : KT} (K : AOK (wX l g sta) mX3_takeEight k) (h : HS) (x : Int64) {L : Nat} (e : h.1 4 1 = nI L) (hL : L ≤ 192) :
    AW (wX l g sta) (DP ((fdX h x 8).1 4 1, fdX h x 8)) 6 mX3_takeEight k 16 [some (.ref (g.2.1 4)), some (.long x), none, some (.int 0)] [] (fdX h x 7) := by
  refine aw_il3 K dX3_takeEight_16 ?_
  refine aw_if_lt (tgt := 53) K dX3_takeEight_17 (by decide) (fun b17 => ?_) (fun b17 => ?_)
  · exact absurd b17 (by decide)
  · refine aw_al0 K dX3_takeEight_20 ?_
    refine aw_getR K gX3_11 dX3_takeEight_21 rfl rfl ?_
    refine aw_al0 K dX3_takeEight_24 ?_
    refine aw_getI K gX3_15 dX3_takeEight_25 rfl rfl ?_
    refine aw_ll1 K dX3_takeEight_28 ?_
    refine aw_il3 K dX3_takeEight_29 ?_
    refine aw_lushr K dX3_takeEight_30 ?_
    refine aw_l2i K dX3_takeEight_31 ?_
    refine aw_sipush (v := 255) K dX3_takeEight_32 (by decide) ?_
    refine aw_iand K dX3_takeEight_35 ?_
    have hc : vp_in ((fdX h x 7).1 4 1) 200 := by
      rw [fdX_l h x e 7]
      exact vp_in_nI (by omega) (by decide)
    refine aw_iast K dX3_takeEight_36 rfl hc ?_
    refine aw_al0 K dX3_takeEight_37 ?_
    refine aw_dup K dX3_takeEight_38 rfl ?_
    refine aw_getI K gX3_15 dX3_takeEight_39 rfl rfl ?_
    refine aw_iconst (v := 1) K dX3_takeEight_42 (by decide) ?_
    refine aw_iadd K dX3_takeEight_43 ?_
    refine aw_putI K gX3_15 fpX3_1 dX3_takeEight_44 rfl rfl ?_
    refine aw_ii3 (v := _ + (-8)) K dX3_takeEight_47 rfl (by decide) rfl ?_
    refine aw_goto (tgt := 16) K dX3_takeEight_50 (by decide) ?_
    exact lp8X3_takeEight K h x e hL
set_option maxHeartbeats 4000000 in
set_option maxRecDepth 100000 in
theorem lp6X3_takeEight {l : Launch} {g : Geo} {sta : Nat → Nat} {k : KT} (K : AOK (wX l g sta) mX3_takeEight k) (h : HS) (x : Int64) {L : Nat} (e : h.1 4 1 = nI L) (hL : L ≤ 192) :
    AW (wX l g sta) (DP ((fdX h x 8).1 4 1, fdX h x 8)) 6 mX3_takeEight k 16 [some (.ref (g.2.1 4)), some (.long x), none, some (.int 8)] [] (fdX h x 6) := by
  refine aw_il3 K dX3_takeEight_16 ?_
  refine aw_if_lt (tgt := 53) K dX3_takeEight_17 (by decide) (fun b17 => ?_) (fun b17 => ?_)
  · exact absurd b17 (by decide)
  · refine aw_al0 K dX3_takeEight_20 ?_
    refine aw_getR K gX3_11 dX3_takeEight_21 rfl rfl ?_
    refine aw_al0 K dX3_takeEight_24 ?_
    refine aw_getI K gX3_15 dX3_takeEight_25 rfl rfl ?_
    refine aw_ll1 K dX3_takeEight_28 ?_
    refine aw_il3 K dX3_takeEight_29 ?_
    refine aw_lushr K dX3_takeEight_30 ?_
    refine aw_l2i K dX3_takeEight_31 ?_
    refine aw_sipush (v := 255) K dX3_takeEight_32 (by decide) ?_
    refine aw_iand K dX3_takeEight_35 ?_
    have hc : vp_in ((fdX h x 6).1 4 1) 200 := by
      rw [fdX_l h x e 6]
      exact vp_in_nI (by omega) (by decide)
    refine aw_iast K dX3_takeEight_36 rfl hc ?_
    refine aw_al0 K dX3_takeEight_37 ?_
    refine aw_dup K dX3_takeEight_38 rfl ?_
    refine aw_getI K gX3_15 dX3_takeEight_39 rfl rfl ?_
    refine aw_iconst (v := 1) K dX3_takeEight_42 (by decide) ?_
    refine aw_iadd K dX3_takeEight_43 ?_
    refine aw_putI K gX3_15 fpX3_1 dX3_takeEight_44 rfl rfl ?_
    refine aw_ii3 (v := _ + (-8)) K dX3_takeEight_47 rfl (by decide) rfl ?_
    refine aw_goto (tgt := 16) K dX3_takeEight_50 (by decide) ?_
    exact lp7X3_takeEight K h x e hL
set_option maxHeartbeats 4000000 in
set_option maxRecDepth 100000 in
theorem lp5X3_takeEight {l : Launch} {g : Geo} {sta : Nat → Nat} {k : KT} (K : AOK (wX l g sta) mX3_takeEight k) (h : HS) (x : Int64) {L : Nat} (e : h.1 4 1 = nI L) (hL : L ≤ 192) :
    AW (wX l g sta) (DP ((fdX h x 8).1 4 1, fdX h x 8)) 6 mX3_takeEight k 16 [some (.ref (g.2.1 4)), some (.long x), none, some (.int 16)] [] (fdX h x 5) := by
  refine aw_il3 K dX3_takeEight_16 ?_
  refine aw_if_lt (tgt := 53) K dX3_takeEight_17 (by decide) (fun b17 => ?_) (fun b17 => ?_)
  · exact absurd b17 (by decide)
  · refine aw_al0 K dX3_takeEight_20 ?_
    refine aw_getR K gX3_11 dX3_takeEight_21 rfl rfl ?_
    refine aw_al0 K dX3_takeEight_24 ?_
    refine aw_getI K gX3_15 dX3_takeEight_25 rfl rfl ?_
    refine aw_ll1 K dX3_takeEight_28 ?_
    refine aw_il3 K dX3_takeEight_29 ?_
    refine aw_lushr K dX3_takeEight_30 ?_
    refine aw_l2i K dX3_takeEight_31 ?_
    refine aw_sipush (v := 255) K dX3_takeEight_32 (by decide) ?_
    refine aw_iand K dX3_takeEight_35 ?_
    have hc : vp_in ((fdX h x 5).1 4 1) 200 := by
      rw [fdX_l h x e 5]
      exact vp_in_nI (by omega) (by decide)
    refine aw_iast K dX3_takeEight_36 rfl hc ?_
    refine aw_al0 K dX3_takeEight_37 ?_
    refine aw_dup K dX3_takeEight_38 rfl ?_
    refine aw_getI K gX3_15 dX3_takeEight_39 rfl rfl ?_
    refine aw_iconst (v := 1) K dX3_takeEight_42 (by decide) ?_
    refine aw_iadd K dX3_takeEight_43 ?_
    refine aw_putI K gX3_15 fpX3_1 dX3_takeEight_44 rfl rfl ?_
    refine aw_ii3 (v := _ + (-8)) K dX3_takeEight_47 rfl (by decide) rfl ?_
    refine aw_goto (tgt := 16) K dX3_takeEight_50 (by decide) ?_
    exact lp6X3_takeEight K h x e hL
set_option maxHeartbeats 4000000 in
set_option maxRecDepth 100000 in
theorem lp4X3_takeEight {l : Launch} {g : Geo} {sta : Nat → Nat} {k : KT} (K : AOK (wX l g sta) mX3_takeEight k) (h : HS) (x : Int64) {L : Nat} (e : h.1 4 1 = nI L) (hL : L ≤ 192) :
    AW (wX l g sta) (DP ((fdX h x 8).1 4 1, fdX h x 8)) 6 mX3_takeEight k 16 [some (.ref (g.2.1 4)), some (.long x), none, some (.int 24)] [] (fdX h x 4) := by
  refine aw_il3 K dX3_takeEight_16 ?_
  refine aw_if_lt (tgt := 53) K dX3_takeEight_17 (by decide) (fun b17 => ?_) (fun b17 => ?_)
  · exact absurd b17 (by decide)
  · refine aw_al0 K dX3_takeEight_20 ?_
    refine aw_getR K gX3_11 dX3_takeEight_21 rfl rfl ?_
    refine aw_al0 K dX3_takeEight_24 ?_
    refine aw_getI K gX3_15 dX3_takeEight_25 rfl rfl ?_
    refine aw_ll1 K dX3_takeEight_28 ?_
    refine aw_il3 K dX3_takeEight_29 ?_
    refine aw_lushr K dX3_takeEight_30 ?_
    refine aw_l2i K dX3_takeEight_31 ?_
    refine aw_sipush (v := 255) K dX3_takeEight_32 (by decide) ?_
    refine aw_iand K dX3_takeEight_35 ?_
    have hc : vp_in ((fdX h x 4).1 4 1) 200 := by
      rw [fdX_l h x e 4]
      exact vp_in_nI (by omega) (by decide)
    refine aw_iast K dX3_takeEight_36 rfl hc ?_
    refine aw_al0 K dX3_takeEight_37 ?_
    refine aw_dup K dX3_takeEight_38 rfl ?_
    refine aw_getI K gX3_15 dX3_takeEight_39 rfl rfl ?_
    refine aw_iconst (v := 1) K dX3_takeEight_42 (by decide) ?_
    refine aw_iadd K dX3_takeEight_43 ?_
    refine aw_putI K gX3_15 fpX3_1 dX3_takeEight_44 rfl rfl ?_
    refine aw_ii3 (v := _ + (-8)) K dX3_takeEight_47 rfl (by decide) rfl ?_
    refine aw_goto (tgt := 16) K dX3_takeEight_50 (by decide) ?_
    exact lp5X3_takeEight K h x e hL
set_option maxHeartbeats 4000000 in
set_option maxRecDepth 100000 in
theorem lp3X3_takeEight {l : Launch} {g : Geo} {sta : Nat → Nat} {k : KT} (K : AOK (wX l g sta) mX3_takeEight k) (h : HS) (x : Int64) {L : Nat} (e : h.1 4 1 = nI L) (hL : L ≤ 192) :
    AW (wX l g sta) (DP ((fdX h x 8).1 4 1, fdX h x 8)) 6 mX3_takeEight k 16 [some (.ref (g.2.1 4)), some (.long x), none, some (.int 32)] [] (fdX h x 3) := by
  refine aw_il3 K dX3_takeEight_16 ?_
  refine aw_if_lt (tgt := 53) K dX3_takeEight_17 (by decide) (fun b17 => ?_) (fun b17 => ?_)
  · exact absurd b17 (by decide)
  · refine aw_al0 K dX3_takeEight_20 ?_
    refine aw_getR K gX3_11 dX3_takeEight_21 rfl rfl ?_
    refine aw_al0 K dX3_takeEight_24 ?_
    refine aw_getI K gX3_15 dX3_takeEight_25 rfl rfl ?_
    refine aw_ll1 K dX3_takeEight_28 ?_
    refine aw_il3 K dX3_takeEight_29 ?_
    refine aw_lushr K dX3_takeEight_30 ?_
    refine aw_l2i K dX3_takeEight_31 ?_
    refine aw_sipush (v := 255) K dX3_takeEight_32 (by decide) ?_
    refine aw_iand K dX3_takeEight_35 ?_
    have hc : vp_in ((fdX h x 3).1 4 1) 200 := by
      rw [fdX_l h x e 3]
      exact vp_in_nI (by omega) (by decide)
    refine aw_iast K dX3_takeEight_36 rfl hc ?_
    refine aw_al0 K dX3_takeEight_37 ?_
    refine aw_dup K dX3_takeEight_38 rfl ?_
    refine aw_getI K gX3_15 dX3_takeEight_39 rfl rfl ?_
    refine aw_iconst (v := 1) K dX3_takeEight_42 (by decide) ?_
    refine aw_iadd K dX3_takeEight_43 ?_
    refine aw_putI K gX3_15 fpX3_1 dX3_takeEight_44 rfl rfl ?_
    refine aw_ii3 (v := _ + (-8)) K dX3_takeEight_47 rfl (by decide) rfl ?_
    refine aw_goto (tgt := 16) K dX3_takeEight_50 (by decide) ?_
    exact lp4X3_takeEight K h x e hL
set_option maxHeartbeats 4000000 in
set_option maxRecDepth 100000 in
theorem lp2X3_takeEight {l : Launch} {g : Geo} {sta : Nat → Nat} {k : KT} (K : AOK (wX l g sta) mX3_takeEight k) (h : HS) (x : Int64) {L : Nat} (e : h.1 4 1 = nI L) (hL : L ≤ 192) :
    AW (wX l g sta) (DP ((fdX h x 8).1 4 1, fdX h x 8)) 6 mX3_takeEight k 16 [some (.ref (g.2.1 4)), some (.long x), none, some (.int 40)] [] (fdX h x 2) := by
  refine aw_il3 K dX3_takeEight_16 ?_
  refine aw_if_lt (tgt := 53) K dX3_takeEight_17 (by decide) (fun b17 => ?_) (fun b17 => ?_)
  · exact absurd b17 (by decide)
  · refine aw_al0 K dX3_takeEight_20 ?_
    refine aw_getR K gX3_11 dX3_takeEight_21 rfl rfl ?_
    refine aw_al0 K dX3_takeEight_24 ?_
    refine aw_getI K gX3_15 dX3_takeEight_25 rfl rfl ?_
    refine aw_ll1 K dX3_takeEight_28 ?_
    refine aw_il3 K dX3_takeEight_29 ?_
    refine aw_lushr K dX3_takeEight_30 ?_
    refine aw_l2i K dX3_takeEight_31 ?_
    refine aw_sipush (v := 255) K dX3_takeEight_32 (by decide) ?_
    refine aw_iand K dX3_takeEight_35 ?_
    have hc : vp_in ((fdX h x 2).1 4 1) 200 := by
      rw [fdX_l h x e 2]
      exact vp_in_nI (by omega) (by decide)
    refine aw_iast K dX3_takeEight_36 rfl hc ?_
    refine aw_al0 K dX3_takeEight_37 ?_
    refine aw_dup K dX3_takeEight_38 rfl ?_
    refine aw_getI K gX3_15 dX3_takeEight_39 rfl rfl ?_
    refine aw_iconst (v := 1) K dX3_takeEight_42 (by decide) ?_
    refine aw_iadd K dX3_takeEight_43 ?_
    refine aw_putI K gX3_15 fpX3_1 dX3_takeEight_44 rfl rfl ?_
    refine aw_ii3 (v := _ + (-8)) K dX3_takeEight_47 rfl (by decide) rfl ?_
    refine aw_goto (tgt := 16) K dX3_takeEight_50 (by decide) ?_
    exact lp3X3_takeEight K h x e hL
set_option maxHeartbeats 4000000 in
set_option maxRecDepth 100000 in
theorem lp1X3_takeEight {l : Launch} {g : Geo} {sta : Nat → Nat} {k : KT} (K : AOK (wX l g sta) mX3_takeEight k) (h : HS) (x : Int64) {L : Nat} (e : h.1 4 1 = nI L) (hL : L ≤ 192) :
    AW (wX l g sta) (DP ((fdX h x 8).1 4 1, fdX h x 8)) 6 mX3_takeEight k 16 [some (.ref (g.2.1 4)), some (.long x), none, some (.int 48)] [] (fdX h x 1) := by
  refine aw_il3 K dX3_takeEight_16 ?_
  refine aw_if_lt (tgt := 53) K dX3_takeEight_17 (by decide) (fun b17 => ?_) (fun b17 => ?_)
  · exact absurd b17 (by decide)
  · refine aw_al0 K dX3_takeEight_20 ?_
    refine aw_getR K gX3_11 dX3_takeEight_21 rfl rfl ?_
    refine aw_al0 K dX3_takeEight_24 ?_
    refine aw_getI K gX3_15 dX3_takeEight_25 rfl rfl ?_
    refine aw_ll1 K dX3_takeEight_28 ?_
    refine aw_il3 K dX3_takeEight_29 ?_
    refine aw_lushr K dX3_takeEight_30 ?_
    refine aw_l2i K dX3_takeEight_31 ?_
    refine aw_sipush (v := 255) K dX3_takeEight_32 (by decide) ?_
    refine aw_iand K dX3_takeEight_35 ?_
    have hc : vp_in ((fdX h x 1).1 4 1) 200 := by
      rw [fdX_l h x e 1]
      exact vp_in_nI (by omega) (by decide)
    refine aw_iast K dX3_takeEight_36 rfl hc ?_
    refine aw_al0 K dX3_takeEight_37 ?_
    refine aw_dup K dX3_takeEight_38 rfl ?_
    refine aw_getI K gX3_15 dX3_takeEight_39 rfl rfl ?_
    refine aw_iconst (v := 1) K dX3_takeEight_42 (by decide) ?_
    refine aw_iadd K dX3_takeEight_43 ?_
    refine aw_putI K gX3_15 fpX3_1 dX3_takeEight_44 rfl rfl ?_
    refine aw_ii3 (v := _ + (-8)) K dX3_takeEight_47 rfl (by decide) rfl ?_
    refine aw_goto (tgt := 16) K dX3_takeEight_50 (by decide) ?_
    exact lp2X3_takeEight K h x e hL
set_option maxHeartbeats 4000000 in
set_option maxRecDepth 100000 in
theorem lp0X3_takeEight {l : Launch} {g : Geo} {sta : Nat → Nat} {k : KT} (K : AOK (wX l g sta) mX3_takeEight k) (h : HS) (x : Int64) {L : Nat} (e : h.1 4 1 = nI L) (hL : L ≤ 192) :
    AW (wX l g sta) (DP ((fdX h x 8).1 4 1, fdX h x 8)) 6 mX3_takeEight k 16 [some (.ref (g.2.1 4)), some (.long x), none, some (.int 56)] [] (fdX h x 0) := by
  refine aw_il3 K dX3_takeEight_16 ?_
  refine aw_if_lt (tgt := 53) K dX3_takeEight_17 (by decide) (fun b17 => ?_) (fun b17 => ?_)
  · exact absurd b17 (by decide)
  · refine aw_al0 K dX3_takeEight_20 ?_
    refine aw_getR K gX3_11 dX3_takeEight_21 rfl rfl ?_
    refine aw_al0 K dX3_takeEight_24 ?_
    refine aw_getI K gX3_15 dX3_takeEight_25 rfl rfl ?_
    refine aw_ll1 K dX3_takeEight_28 ?_
    refine aw_il3 K dX3_takeEight_29 ?_
    refine aw_lushr K dX3_takeEight_30 ?_
    refine aw_l2i K dX3_takeEight_31 ?_
    refine aw_sipush (v := 255) K dX3_takeEight_32 (by decide) ?_
    refine aw_iand K dX3_takeEight_35 ?_
    have hc : vp_in ((fdX h x 0).1 4 1) 200 := by
      rw [fdX_l h x e 0]
      exact vp_in_nI (by omega) (by decide)
    refine aw_iast K dX3_takeEight_36 rfl hc ?_
    refine aw_al0 K dX3_takeEight_37 ?_
    refine aw_dup K dX3_takeEight_38 rfl ?_
    refine aw_getI K gX3_15 dX3_takeEight_39 rfl rfl ?_
    refine aw_iconst (v := 1) K dX3_takeEight_42 (by decide) ?_
    refine aw_iadd K dX3_takeEight_43 ?_
    refine aw_putI K gX3_15 fpX3_1 dX3_takeEight_44 rfl rfl ?_
    refine aw_ii3 (v := _ + (-8)) K dX3_takeEight_47 rfl (by decide) rfl ?_
    refine aw_goto (tgt := 16) K dX3_takeEight_50 (by decide) ?_
    exact lp1X3_takeEight K h x e hL
set_option maxHeartbeats 4000000 in
set_option maxRecDepth 100000 in
theorem tX3_takeEight (l : Launch) (g : Geo) (sta : Nat → Nat) (h : HS) (x : Int64) {L : Nat} (e : h.1 4 1 = nI L) (hL : L ≤ 200) : CT (wX l g sta) 6 mX3_takeEight [.ref (g.2.1 4), .long x] h (DP (feedF h x)) := by
  refine CT.at [some (.ref (g.2.1 4)), some (.long x), none, none] 1 rfl (by decide) (Nat.le_of_ble_eq_true rfl) (fun k K => ?_)
  refine aw_al0 K dX3_takeEight_0 ?_
  refine aw_getI K gX3_15 dX3_takeEight_1 rfl rfl ?_
  refine aw_sipush (v := 192) K dX3_takeEight_4 (by decide) ?_
  refine aw_icmp_le (tgt := 13) K dX3_takeEight_7 (by decide) (fun b7 => ?_) (fun b7 => ?_)
  · refine aw_bipush (v := 56) K dX3_takeEight_13 (by decide) ?_
    refine aw_is3 K dX3_takeEight_15 (by decide) rfl ?_
    rw [show feedF h x = _ from (by rw [feedF, if_pos b7])]
    exact lp0X3_takeEight K h x e ((nI_leI (b := 192) (by omega) (by decide)).mp (e ▸ b7))
  · refine aw_bipush (v := (-3)) K dX3_takeEight_10 (by decide) ?_
    refine aw_iret K rfl dX3_takeEight_12 ?_
    exact DPi (by rw [feedF, if_neg b7])

set_option maxHeartbeats 4000000 in
set_option maxRecDepth 100000 in
theorem tX6_feed (l : Launch) (g : Geo) (sta : Nat → Nat) (h : HS) (x : Int64) {L : Nat} (e : h.1 4 1 = nI L) (hL : L ≤ 200) : CT (wX l g sta) 7 mX6_feed [.ref (g.2.1 0), .long x] h (DP (feedF h x)) := by
  refine CT.at [some (.ref (g.2.1 0)), some (.long x), none] 0 rfl (by decide) (Nat.le_of_ble_eq_true rfl) (fun k K => ?_)
  refine aw_al0 K dX6_feed_0 ?_
  refine aw_getR K gX6_33 dX6_feed_1 rfl rfl ?_
  refine aw_ll1 K dX6_feed_4 ?_
  refine aw_callV K (tX3_takeEight l g sta _ _ e hL) rfl (by decide) fX3_takeEight lX6_176 dX6_feed_5 rfl clsX3 rfl (Nat.le_of_ble_eq_true rfl) (fun o h2 hq => ?_)
  obtain ⟨rfl, rfl⟩ := hq
  refine (show AW _ _ _ _ _ _ _ (.int _ :: _) _ from ?_)
  refine aw_iret K rfl dX6_feed_8 ?_
  exact ⟨rfl, rfl⟩

def ndB (h : HS) (a : Int32) : Nat → Int32
  | 0 => 1
  | n + 1 => if h.1 28 n = a then 0 else ndB h a n
theorem ndB_0 (h : HS) (a : Int32) (i : Nat) (e : h.1 28 i = a) : ∀ n, i < n → ndB h a n = 0
  | 0, q => absurd q (Nat.not_lt_zero _)
  | n + 1, q => by
    by_cases z : h.1 28 n = a
    · exact if_pos z
    · refine (if_neg z).trans (ndB_0 h a i e n ?_)
      rcases Nat.lt_or_ge i n with y | y
      · exact y
      · obtain rfl : i = n := by omega
        exact absurd e z
theorem ndB_nar (h : HS) (a : Int32) : ∀ n, ndB h a n = 1 ∨ ndB h a n = 0
  | 0 => Or.inl rfl
  | n + 1 => by
    show (if h.1 28 n = a then (0 : Int32) else ndB h a n) = 1 ∨ (if h.1 28 n = a then (0 : Int32) else ndB h a n) = 0
    split
    · exact Or.inr rfl
    · exact ndB_nar h a n
set_option maxHeartbeats 4000000 in
set_option maxRecDepth 100000 in
theorem lpbX5_isNewDeal {l : Launch} {g : Geo} {sta : Nat → Nat} {k : KT} (K : AOK (wX l g sta) mX5_isNewDeal k) (h : HS) (a : Int32) {N T Wn : Nat} (H : XW h N T Wn) :
    ∀ (n i : Nat), i ≤ Wn → Wn - i < n → ndB h a i = 1 → AW (wX l g sta) (DI (ndB h a Wn) h) 1 mX5_isNewDeal k 2 [some (.ref (g.2.1 3)), some (.int a), some (.int (nI i))] [] h := by
  intro n
  induction n with
  | zero => intro i h1 h2; omega
  | succ n ih =>
    intro i h1 h2 hall
    have hT := H.2.2.1.2
    refine aw_il2 K dX5_isNewDeal_2 ?_
    refine aw_al0 K dX5_isNewDeal_3 ?_
    refine aw_getI K gX5_34 dX5_isNewDeal_4 rfl rfl ?_
    rw [H.2.2.1.1]
    refine aw_icmp_ge (tgt := 28) K dX5_isNewDeal_7 (by decide) (fun b7 => ?_) (fun b7 => ?_)
    · have hiN : i = Wn := by
        have := (nI_leI (a := Wn) (by omega) (by omega : i < 2 ^ 31)).mp b7
        omega
      subst hiN
      refine aw_iconst (v := 1) K dX5_isNewDeal_28 (by decide) ?_
      refine aw_zret K rfl dX5_isNewDeal_29 (by first | rfl | exact bI_nar _) ?_
      rw [hall]
      exact ⟨rfl, rfl⟩
    · have hlt : i < Wn := by
        rcases Nat.lt_or_ge i Wn with q | q
        · exact q
        · exact absurd (nI_le (a := Wn) q (by omega)) b7
      refine aw_al0 K dX5_isNewDeal_10 ?_
      refine aw_getR K gX5_18 dX5_isNewDeal_11 rfl rfl ?_
      refine aw_il2 K dX5_isNewDeal_14 ?_
      refine aw_iald K dX5_isNewDeal_15 rfl (vp_in_nI (by omega) (by decide)) ?_
      rw [nI_clamp (show i < 2 ^ 31 by omega)]
      refine aw_il1 K dX5_isNewDeal_16 ?_
      refine aw_icmp_ne (tgt := 22) K dX5_isNewDeal_17 (by decide) (fun b17 => ?_) (fun b17 => ?_)
      · refine aw_ii2 (v := _ + 1) K dX5_isNewDeal_22 rfl (by decide) rfl ?_
        refine aw_goto (tgt := 2) K dX5_isNewDeal_25 (by decide) ?_
        rw [nI_1]
        exact ih (i + 1) (by omega) (by omega) ((if_neg b17).trans hall)
      · refine aw_iconst (v := 0) K dX5_isNewDeal_20 (by decide) ?_
        refine aw_zret K rfl dX5_isNewDeal_21 (by first | rfl | exact bI_nar _) ?_
        rw [ndB_0 h a i b17 Wn hlt]
        exact ⟨rfl, rfl⟩
set_option maxHeartbeats 4000000 in
set_option maxRecDepth 100000 in
theorem tX5n (l : Launch) (g : Geo) (sta : Nat → Nat) (h : HS) (a : Int32) {N T Wn : Nat} (H : XW h N T Wn) : CT (wX l g sta) 1 mX5_isNewDeal [.ref (g.2.1 3), .int a] h (DI (ndB h a Wn) h) := by
  refine CT.at [some (.ref (g.2.1 3)), some (.int a), none] 1 rfl (by decide) (Nat.le_of_ble_eq_true rfl) (fun k K => ?_)
  refine aw_iconst (v := 0) K dX5_isNewDeal_0 (by decide) ?_
  refine aw_is2 K dX5_isNewDeal_1 (by decide) rfl ?_
  exact lpbX5_isNewDeal K h a H (Wn + 1) 0 (by omega) (by omega) rfl

def refV (h : HS) (a b c e z : Int32) : Int32 := if ((0 ≤ a ∧ a ≤ h.1 1 5 - 1) ∧ (0 ≤ b ∧ b ≤ h.1 1 5 - 1) ∧ ¬ a = b) ∧ (0 ≤ c ∧ c ≤ 99) ∧ (0 ≤ e ∧ e ≤ 10) then (if h.1 3 7 + z < 24 then (if h.1 18 a.toNatClampNeg = 0 then 0 else -2) else -3) else -1
def wenF (h : HS) (a b c e z : Int32) (Wn : Nat) : Int32 × HS := if h.1 3 7 < 24 then (h.1 3 7, setI (setI (setI (setI (setI (setI (setI (setI h 32 (h.1 3 7).toNatClampNeg (vp_nar .boolean (ndB h c Wn))) 26 (h.1 3 7).toNatClampNeg a) 27 (h.1 3 7).toNatClampNeg b) 31 (h.1 3 7).toNatClampNeg ((1 : Int32) <<< (a &&& 31) ||| (1 : Int32) <<< (b &&& 31))) 28 (h.1 3 7).toNatClampNeg c) 29 (h.1 3 7).toNatClampNeg e) 30 (h.1 3 7).toNatClampNeg z) 3 7 (h.1 3 7 + 1)) else (-3, h)
def wordF (h : HS) (a b c e : Int32) (Wn : Nat) : Int32 × HS := if refV h a b c e 0 = 0 then wenF h a b c e (h.1 0 11) Wn else (refV h a b c e 0, h)
set_option maxHeartbeats 4000000 in
set_option maxRecDepth 100000 in
theorem tX6_refusalOf (l : Launch) (g : Geo) (sta : Nat → Nat) (h : HS) (a b c e z : Int32) {N T Wn : Nat} (H : XW h N T Wn) : CT (wX l g sta) 4 mX6_refusalOf [.ref (g.2.1 0), .int a, .int b, .int c, .int e, .int z] h (DI (refV h a b c e z) h) := by
  refine CT.at [some (.ref (g.2.1 0)), some (.int a), some (.int b), some (.int c), some (.int e), some (.int z)] 0 rfl (by decide) (Nat.le_of_ble_eq_true rfl) (fun k K => ?_)
  refine aw_al0 K dX6_refusalOf_0 ?_
  refine aw_il1 K dX6_refusalOf_1 ?_
  refine aw_il2 K dX6_refusalOf_2 ?_
  refine aw_callV_I K (tX6_arePair l g sta _ _ _) rfl (by decide) fX6_arePair lX6_105 dX6_refusalOf_3 rfl clsX6 rfl (Nat.le_of_ble_eq_true rfl) ?_
  refine aw_if_eq (tgt := 30) K dX6_refusalOf_6 (by decide) (fun b6 => ?_) (fun b6 => ?_)
  · refine aw_iconst (v := (-1)) K dX6_refusalOf_30 (by decide) ?_
    refine aw_iret K rfl dX6_refusalOf_31 ?_
    refine ⟨?_, rfl⟩
    rw [refV, if_neg (fun q => bI_0.mp b6 q.1)]
  · refine aw_il3 K dX6_refusalOf_9 ?_
    refine aw_iconst (v := 0) K dX6_refusalOf_10 (by decide) ?_
    refine aw_bipush (v := 99) K dX6_refusalOf_11 (by decide) ?_
    refine aw_callS_I K (tX6_within l g sta _ _ _ _) rfl (by decide) fX6_within lX6_76 dX6_refusalOf_13 rfl (Nat.le_of_ble_eq_true rfl) ?_
    refine aw_if_eq (tgt := 30) K dX6_refusalOf_16 (by decide) (fun b16 => ?_) (fun b16 => ?_)
    · refine aw_iconst (v := (-1)) K dX6_refusalOf_30 (by decide) ?_
      refine aw_iret K rfl dX6_refusalOf_31 ?_
      refine ⟨?_, rfl⟩
      rw [refV, if_neg (fun q => bI_0.mp b16 q.2.1)]
    · refine aw_il4 K dX6_refusalOf_19 ?_
      refine aw_iconst (v := 0) K dX6_refusalOf_21 (by decide) ?_
      refine aw_bipush (v := 10) K dX6_refusalOf_22 (by decide) ?_
      refine aw_callS_I K (tX6_within l g sta _ _ _ _) rfl (by decide) fX6_within lX6_76 dX6_refusalOf_24 rfl (Nat.le_of_ble_eq_true rfl) ?_
      refine aw_if_ne (tgt := 32) K dX6_refusalOf_27 (by decide) (fun b27 => ?_) (fun b27 => ?_)
      · have ha : vp_in a 12 := inN H.1.1 H.1.2 (by decide) (bI_1.mp b6).1
        refine aw_al0 K dX6_refusalOf_32 ?_
        refine aw_getR K gX6_26 dX6_refusalOf_33 rfl rfl ?_
        refine aw_getI K gX6_255 dX6_refusalOf_36 rfl rfl ?_
        refine aw_il5 K dX6_refusalOf_39 ?_
        refine aw_iadd K dX6_refusalOf_41 ?_
        refine aw_bipush (v := 24) K dX6_refusalOf_42 (by decide) ?_
        refine aw_icmp_lt (tgt := 50) K dX6_refusalOf_44 (by decide) (fun b44 => ?_) (fun b44 => ?_)
        · refine aw_al0 K dX6_refusalOf_50 ?_
          refine aw_getR K gX6_12 dX6_refusalOf_51 rfl rfl ?_
          refine aw_getR K gX6_96 dX6_refusalOf_54 rfl rfl ?_
          refine aw_il1 K dX6_refusalOf_57 ?_
          refine aw_zald K dX6_refusalOf_58 rfl ha ?_
          refine aw_if_eq (tgt := 67) K dX6_refusalOf_59 (by decide) (fun b59 => ?_) (fun b59 => ?_)
          · refine aw_iconst (v := 0) K dX6_refusalOf_67 (by decide) ?_
            refine aw_iret K rfl dX6_refusalOf_68 ?_
            refine ⟨?_, rfl⟩
            rw [refV, if_pos ⟨bI_1.mp b6, bI_1.mp b16, bI_1.mp b27⟩, if_pos b44, if_pos b59]
          · refine aw_bipush (v := (-2)) K dX6_refusalOf_62 (by decide) ?_
            refine aw_goto (tgt := 68) K dX6_refusalOf_64 (by decide) ?_
            refine aw_iret K rfl dX6_refusalOf_68 ?_
            refine ⟨?_, rfl⟩
            rw [refV, if_pos ⟨bI_1.mp b6, bI_1.mp b16, bI_1.mp b27⟩, if_pos b44, if_neg b59]
        · refine aw_bipush (v := (-3)) K dX6_refusalOf_47 (by decide) ?_
          refine aw_iret K rfl dX6_refusalOf_49 ?_
          refine ⟨?_, rfl⟩
          rw [refV, if_pos ⟨bI_1.mp b6, bI_1.mp b16, bI_1.mp b27⟩, if_neg b44]
      · refine aw_iconst (v := (-1)) K dX6_refusalOf_30 (by decide) ?_
        refine aw_iret K rfl dX6_refusalOf_31 ?_
        refine ⟨?_, rfl⟩
        rw [refV, if_neg (fun q => bI_0.mp b27 q.2.2)]

set_option maxHeartbeats 4000000 in
set_option maxRecDepth 100000 in
theorem tX5_enter (l : Launch) (g : Geo) (sta : Nat → Nat) (h : HS) (a b c e z : Int32) {N T Wn : Nat} (H : XW h N T Wn) : CT (wX l g sta) 6 mX5_enter [.ref (g.2.1 3), .int a, .int b, .int c, .int e, .int z] h (DP (wenF h a b c e z Wn)) := by
  refine CT.at [some (.ref (g.2.1 3)), some (.int a), some (.int b), some (.int c), some (.int e), some (.int z)] 0 rfl (by decide) (Nat.le_of_ble_eq_true rfl) (fun k K => ?_)
  refine aw_al0 K dX5_enter_0 ?_
  refine aw_getI K gX5_34 dX5_enter_1 rfl rfl ?_
  refine aw_bipush (v := 24) K dX5_enter_4 (by decide) ?_
  refine aw_icmp_lt (tgt := 12) K dX5_enter_6 (by decide) (fun b6 => ?_) (fun b6 => ?_)
  · have hc : vp_in (h.1 3 7) 24 := inC H.2.2.1.1 (by have := H.2.2.1.2; omega) (by decide) b6
    refine aw_al0 K dX5_enter_12 ?_
    refine aw_getR K gX5_30 dX5_enter_13 rfl rfl ?_
    refine aw_al0 K dX5_enter_16 ?_
    refine aw_getI K gX5_34 dX5_enter_17 rfl rfl ?_
    refine aw_al0 K dX5_enter_20 ?_
    refine aw_il3 K dX5_enter_21 ?_
    refine aw_callV_I K (tX5n l g sta _ _ H) rfl (by decide) fX5_isNewDeal lX5_38 dX5_enter_22 rfl clsX5 rfl (Nat.le_of_ble_eq_true rfl) ?_
    refine aw_zast K dX5_enter_25 rfl hc ?_
    refine aw_al0 K dX5_enter_26 ?_
    refine aw_getR K gX5_9 dX5_enter_27 rfl rfl ?_
    refine aw_al0 K dX5_enter_30 ?_
    refine aw_getI K gX5_34 dX5_enter_31 rfl rfl ?_
    refine aw_il1 K dX5_enter_34 ?_
    refine aw_iast K dX5_enter_35 rfl hc ?_
    refine aw_al0 K dX5_enter_36 ?_
    refine aw_getR K gX5_15 dX5_enter_37 rfl rfl ?_
    refine aw_al0 K dX5_enter_40 ?_
    refine aw_getI K gX5_34 dX5_enter_41 rfl rfl ?_
    refine aw_il2 K dX5_enter_44 ?_
    refine aw_iast K dX5_enter_45 rfl hc ?_
    refine aw_al0 K dX5_enter_46 ?_
    refine aw_getR K gX5_27 dX5_enter_47 rfl rfl ?_
    refine aw_al0 K dX5_enter_50 ?_
    refine aw_getI K gX5_34 dX5_enter_51 rfl rfl ?_
    refine aw_iconst (v := 1) K dX5_enter_54 (by decide) ?_
    refine aw_il1 K dX5_enter_55 ?_
    refine aw_ishl K dX5_enter_56 ?_
    refine aw_iconst (v := 1) K dX5_enter_57 (by decide) ?_
    refine aw_il2 K dX5_enter_58 ?_
    refine aw_ishl K dX5_enter_59 ?_
    refine aw_ior K dX5_enter_60 ?_
    refine aw_iast K dX5_enter_61 rfl hc ?_
    refine aw_al0 K dX5_enter_62 ?_
    refine aw_getR K gX5_18 dX5_enter_63 rfl rfl ?_
    refine aw_al0 K dX5_enter_66 ?_
    refine aw_getI K gX5_34 dX5_enter_67 rfl rfl ?_
    refine aw_il3 K dX5_enter_70 ?_
    refine aw_iast K dX5_enter_71 rfl hc ?_
    refine aw_al0 K dX5_enter_72 ?_
    refine aw_getR K gX5_21 dX5_enter_73 rfl rfl ?_
    refine aw_al0 K dX5_enter_76 ?_
    refine aw_getI K gX5_34 dX5_enter_77 rfl rfl ?_
    refine aw_il4 K dX5_enter_80 ?_
    refine aw_iast K dX5_enter_82 rfl hc ?_
    refine aw_al0 K dX5_enter_83 ?_
    refine aw_getR K gX5_24 dX5_enter_84 rfl rfl ?_
    refine aw_al0 K dX5_enter_87 ?_
    refine aw_getI K gX5_34 dX5_enter_88 rfl rfl ?_
    refine aw_il5 K dX5_enter_91 ?_
    refine aw_iast K dX5_enter_93 rfl hc ?_
    refine aw_al0 K dX5_enter_94 ?_
    refine aw_dup K dX5_enter_95 rfl ?_
    refine aw_getI K gX5_34 dX5_enter_96 rfl rfl ?_
    refine aw_dup_x1 K dX5_enter_99 rfl rfl ?_
    refine aw_iconst (v := 1) K dX5_enter_100 (by decide) ?_
    refine aw_iadd K dX5_enter_101 ?_
    refine aw_putI K gX5_34 fpX5_7 dX5_enter_102 rfl rfl ?_
    refine aw_iret K rfl dX5_enter_105 ?_
    exact DPi (by rw [wenF, if_pos b6]; rfl)
  · refine aw_bipush (v := (-3)) K dX5_enter_9 (by decide) ?_
    refine aw_iret K rfl dX5_enter_11 ?_
    exact DPi (by rw [wenF, if_neg b6])

set_option maxHeartbeats 4000000 in
set_option maxRecDepth 100000 in
theorem tX6_word (l : Launch) (g : Geo) (sta : Nat → Nat) (h : HS) (a b c e : Int32) {N T Wn : Nat} (H : XW h N T Wn) : CT (wX l g sta) 7 mX6_word [.ref (g.2.1 0), .int a, .int b, .int c, .int e] h (DP (wordF h a b c e Wn)) := by
  refine CT.at [some (.ref (g.2.1 0)), some (.int a), some (.int b), some (.int c), some (.int e), none] 1 rfl (by decide) (Nat.le_of_ble_eq_true rfl) (fun k K => ?_)
  refine aw_al0 K dX6_word_0 ?_
  refine aw_il1 K dX6_word_1 ?_
  refine aw_il2 K dX6_word_2 ?_
  refine aw_il3 K dX6_word_3 ?_
  refine aw_il4 K dX6_word_4 ?_
  refine aw_iconst (v := 0) K dX6_word_6 (by decide) ?_
  refine aw_callV_I K (tX6_refusalOf l g sta _ _ _ _ _ _ H) rfl (by decide) fX6_refusalOf lX6_214 dX6_word_7 rfl clsX6 rfl (Nat.le_of_ble_eq_true rfl) ?_
  refine aw_is5 K dX6_word_10 (by decide) rfl ?_
  refine aw_il5 K dX6_word_12 ?_
  refine aw_if_eq (tgt := 22) K dX6_word_14 (by decide) (fun b14 => ?_) (fun b14 => ?_)
  · refine aw_al0 K dX6_word_22 ?_
    refine aw_getR K gX6_26 dX6_word_23 rfl rfl ?_
    refine aw_il1 K dX6_word_26 ?_
    refine aw_il2 K dX6_word_27 ?_
    refine aw_il3 K dX6_word_28 ?_
    refine aw_il4 K dX6_word_29 ?_
    refine aw_al0 K dX6_word_31 ?_
    refine aw_getI K gX6_113 dX6_word_32 rfl rfl ?_
    refine aw_callV K (tX5_enter l g sta _ _ _ _ _ _ H) rfl (by decide) fX5_enter lX6_217 dX6_word_35 rfl clsX5 rfl (Nat.le_of_ble_eq_true rfl) (fun o h2 hq => ?_)
    obtain ⟨rfl, rfl⟩ := hq
    refine (show AW _ _ _ _ _ _ _ (.int _ :: _) _ from ?_)
    refine aw_iret K rfl dX6_word_38 ?_
    exact DPi (by rw [wordF, if_pos b14])
  · refine aw_il5 K dX6_word_17 ?_
    refine aw_goto (tgt := 38) K dX6_word_19 (by decide) ?_
    refine aw_iret K rfl dX6_word_38 ?_
    exact DPi (by rw [wordF, if_neg b14])

