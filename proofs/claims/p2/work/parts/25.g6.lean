theorem sh_lay : ∀ j, j < 4 → layX[7 + j]? = some (5, 0, [7 + j + 33 + 2, 0, 0]) ∧ layX[7 + j + 33]? = some (0, 48, []) ∧ ([7, 8, 9, 10] : List Nat)[j]? = some (7 + j) := by decide
theorem sh_in {a : Int32} (h : 0 ≤ a ∧ a ≤ 3) : ∃ j : Nat, j < 4 ∧ a = nI j := vp_in_of (inB (M := 3) (by decide) h) (by decide)
/-- a sheet's size: none, or 0 to 48 -/
def SZ (h : HS) (c : Nat) : Prop := h.1 c 2 = -1 ∨ ∃ z : Nat, z ≤ 48 ∧ h.1 c 2 = nI z
theorem sz_in {h : HS} {c : Nat} {a : Int32} (hz : SZ h c) (q : 0 ≤ a ∧ a ≤ h.1 c 2 - 1) : vp_in a 48 := by
  rcases hz with e | ⟨z, hz, e⟩
  · rw [e] at q
    exact absurd (Int32.le_trans q.1 q.2) (by decide)
  · exact inN e hz (by decide) q
def faV (h : HS) (c : Nat) (a : Int32) : Int32 := if h.1 c 2 = -1 then 1 else if 0 ≤ a ∧ a ≤ h.1 c 2 - 1 then 0 else 2
def nrV (la b : Int32) : Int32 := if la.toInt = 0 then b.toInt8.toInt32 else if la.toInt = 1 then b.toInt16.toInt32 else b
def putF (h : HS) (c : Nat) (a b : Int32) : HS := if 0 ≤ a ∧ a ≤ h.1 c 2 - 1 then setI h (c + 33) a.toNatClampNeg (nrV (h.1 c 1) b) else h
def rnwF (h : HS) (c : Nat) (a b : Int32) : HS := setI (setI (setR h (c + 33) (fil (h.1 (c + 33)) 48 0)) c 1 a) c 2 b
def sheetF (h : HS) (a b c : Int32) : Int32 × HS := if (0 ≤ a ∧ a ≤ 3) ∧ (0 ≤ b ∧ b ≤ 2) ∧ c ≤ 48 then (if 0 ≤ c then (1, rnwF h (7 + a.toNatClampNeg) b c) else (-14, h)) else (-1, h)
def layF (h : HS) (a b c : Int32) : Int32 × HS := if 0 ≤ a ∧ a ≤ 3 then (if faV h (7 + a.toNatClampNeg) b = 0 then (1, putF h (7 + a.toNatClampNeg) b c) else (-10 - faV h (7 + a.toNatClampNeg) b, h)) else (-1, h)
set_option maxHeartbeats 4000000 in
set_option maxRecDepth 100000 in
theorem tX2_faultAt (l : Launch) (g : Geo) (sta : Nat → Nat) (h : HS) (c : Nat) (a : Int32) (hc : layX[c]? = some (5, 0, [c + 33 + 2, 0, 0])) : CT (wX l g sta) 3 mX2_faultAt [.ref (g.2.1 c), .int a] h (DI (faV h c a) h) := by
  refine CT.at [some (.ref (g.2.1 c)), some (.int a)] 0 rfl (by decide) (Nat.le_of_ble_eq_true rfl) (fun k K => ?_)
  refine aw_al0 K dX2_faultAt_0 ?_
  refine aw_callV_I K (tX2_isNothing l g sta _ c hc) rfl (by decide) fX2_isNothing lX2_28 dX2_faultAt_1 hc clsX2 rfl (Nat.le_of_ble_eq_true rfl) ?_
  refine aw_if_eq (tgt := 9) K dX2_faultAt_4 (by decide) (fun b4 => ?_) (fun b4 => ?_)
  · refine aw_il1 K dX2_faultAt_9 ?_
    refine aw_iconst (v := 0) K dX2_faultAt_10 (by decide) ?_
    refine aw_al0 K dX2_faultAt_11 ?_
    refine aw_getI K gX2_15 dX2_faultAt_12 hc rfl ?_
    refine aw_iconst (v := 1) K dX2_faultAt_15 (by decide) ?_
    refine aw_isub K dX2_faultAt_16 ?_
    refine aw_callSN_I K (tX6_within l g sta _ _ _ _) rfl (by decide) fX6_within lX2_32 dX2_faultAt_17 rfl (Nat.le_of_ble_eq_true rfl) ?_
    refine aw_if_eq (tgt := 27) K dX2_faultAt_20 (by decide) (fun b20 => ?_) (fun b20 => ?_)
    · refine aw_iconst (v := 2) K dX2_faultAt_27 (by decide) ?_
      refine aw_iret K rfl dX2_faultAt_28 ?_
      refine ⟨?_, rfl⟩
      rw [faV, if_neg (bI_0.mp b4), if_neg (bI_0.mp b20)]
    · refine aw_iconst (v := 0) K dX2_faultAt_23 (by decide) ?_
      refine aw_goto (tgt := 28) K dX2_faultAt_24 (by decide) ?_
      refine aw_iret K rfl dX2_faultAt_28 ?_
      refine ⟨?_, rfl⟩
      rw [faV, if_neg (bI_0.mp b4), if_pos (bI_1.mp b20)]
  · refine aw_iconst (v := 1) K dX2_faultAt_7 (by decide) ?_
    refine aw_iret K rfl dX2_faultAt_8 ?_
    refine ⟨?_, rfl⟩
    rw [faV, if_pos (bI_1.mp b4)]

set_option maxHeartbeats 4000000 in
set_option maxRecDepth 100000 in
theorem tX2_put (l : Launch) (g : Geo) (sta : Nat → Nat) (h : HS) (c : Nat) (a b : Int32) (hc : layX[c]? = some (5, 0, [c + 33 + 2, 0, 0])) (hc2 : layX[c + 33]? = some (0, 48, [])) (hz : SZ h c) : CT (wX l g sta) 3 mX2_put [.ref (g.2.1 c), .int a, .int b] h (DV (putF h c a b)) := by
  refine CT.at [some (.ref (g.2.1 c)), some (.int a), some (.int b)] 0 rfl (by decide) (Nat.le_of_ble_eq_true rfl) (fun k K => ?_)
  refine aw_il1 K dX2_put_0 ?_
  refine aw_iconst (v := 0) K dX2_put_1 (by decide) ?_
  refine aw_al0 K dX2_put_2 ?_
  refine aw_getI K gX2_15 dX2_put_3 hc rfl ?_
  refine aw_iconst (v := 1) K dX2_put_6 (by decide) ?_
  refine aw_isub K dX2_put_7 ?_
  refine aw_callSN_I K (tX6_within l g sta _ _ _ _) rfl (by decide) fX6_within lX2_32 dX2_put_8 rfl (Nat.le_of_ble_eq_true rfl) ?_
  refine aw_if_ne (tgt := 15) K dX2_put_11 (by decide) (fun b11 => ?_) (fun b11 => ?_)
  · have ha := sz_in hz (bI_1.mp b11)
    refine aw_al0 K dX2_put_15 ?_
    refine aw_getI K gX2_25 dX2_put_16 hc rfl ?_
    refine aw_lk2 (ta := 44) (tb := 55) (td := 66) K dX2_put_19 (by decide) (by decide) (by decide) (by decide) (fun s0 => ?_) (fun s1 => ?_) (fun s0 s1 => ?_)
    · refine aw_al0 K dX2_put_44 ?_
      refine aw_getR K gX2_11 dX2_put_45 hc rfl ?_
      refine aw_il1 K dX2_put_48 ?_
      refine aw_il2 K dX2_put_49 ?_
      refine aw_i2b K dX2_put_50 ?_
      refine aw_iast K dX2_put_51 hc2 ha ?_
      refine aw_goto (tgt := 73) K dX2_put_52 (by decide) ?_
      refine aw_vret K rfl dX2_put_73 ?_
      exact ⟨rfl, by rw [putF, if_pos (bI_1.mp b11), nrV, if_pos s0]⟩
    · refine aw_al0 K dX2_put_55 ?_
      refine aw_getR K gX2_11 dX2_put_56 hc rfl ?_
      refine aw_il1 K dX2_put_59 ?_
      refine aw_il2 K dX2_put_60 ?_
      refine aw_i2s K dX2_put_61 ?_
      refine aw_iast K dX2_put_62 hc2 ha ?_
      refine aw_goto (tgt := 73) K dX2_put_63 (by decide) ?_
      refine aw_vret K rfl dX2_put_73 ?_
      exact ⟨rfl, by rw [putF, if_pos (bI_1.mp b11), nrV, if_neg (by rw [s1]; decide), if_pos s1]⟩
    · refine aw_al0 K dX2_put_66 ?_
      refine aw_getR K gX2_11 dX2_put_67 hc rfl ?_
      refine aw_il1 K dX2_put_70 ?_
      refine aw_il2 K dX2_put_71 ?_
      refine aw_iast K dX2_put_72 hc2 ha ?_
      refine aw_vret K rfl dX2_put_73 ?_
      exact ⟨rfl, by rw [putF, if_pos (bI_1.mp b11), nrV, if_neg s0, if_neg s1]⟩
  · refine aw_vret K rfl dX2_put_14 ?_
    exact ⟨rfl, by rw [putF, if_neg (bI_0.mp b11)]⟩

set_option maxHeartbeats 4000000 in
set_option maxRecDepth 100000 in
theorem tX2_renewRow (l : Launch) (g : Geo) (sta : Nat → Nat) (h : HS) (c : Nat) (a b : Int32) (hc : layX[c]? = some (5, 0, [c + 33 + 2, 0, 0])) (hc2 : layX[c + 33]? = some (0, 48, [])) : CT (wX l g sta) 2 mX2_renewRow [.ref (g.2.1 c), .int a, .int b] h (DV (rnwF h c a b)) := by
  refine CT.at [some (.ref (g.2.1 c)), some (.int a), some (.int b)] 0 rfl (by decide) (Nat.le_of_ble_eq_true rfl) (fun k K => ?_)
  refine aw_al0 K dX2_renewRow_0 ?_
  refine aw_getR K gX2_11 dX2_renewRow_1 hc rfl ?_
  refine aw_iconst (v := 0) K dX2_renewRow_4 (by decide) ?_
  refine aw_callS_V K (tJ7_fill_53178 l g sta _ (c + 33) 48 [] 0 hc2 (by decide)) rfl (by decide) fJ7_fill_53178 lX2_19 dX2_renewRow_5 rfl (Nat.le_of_ble_eq_true rfl) ?_
  refine aw_al0 K dX2_renewRow_8 ?_
  refine aw_il1 K dX2_renewRow_9 ?_
  refine aw_putI K gX2_25 fpX2_1 dX2_renewRow_10 hc rfl ?_
  refine aw_al0 K dX2_renewRow_13 ?_
  refine aw_il2 K dX2_renewRow_14 ?_
  refine aw_putI K gX2_15 fpX2_2 dX2_renewRow_15 hc rfl ?_
  refine aw_vret K rfl dX2_renewRow_18 ?_
  exact ⟨rfl, rfl⟩

set_option maxHeartbeats 4000000 in
set_option maxRecDepth 100000 in
theorem tX6_sheet (l : Launch) (g : Geo) (sta : Nat → Nat) (h : HS) (a b c : Int32) : CT (wX l g sta) 7 mX6_sheet [.ref (g.2.1 0), .int a, .int b, .int c] h (DP (sheetF h a b c)) := by
  refine CT.at [some (.ref (g.2.1 0)), some (.int a), some (.int b), some (.int c)] 0 rfl (by decide) (Nat.le_of_ble_eq_true rfl) (fun k K => ?_)
  refine aw_il1 K dX6_sheet_0 ?_
  refine aw_callS_I K (tX6_isSheet l g sta _ _) rfl (by decide) fX6_isSheet lX6_284 dX6_sheet_1 rfl (Nat.le_of_ble_eq_true rfl) ?_
  refine aw_if_eq (tgt := 20) K dX6_sheet_4 (by decide) (fun b4 => ?_) (fun b4 => ?_)
  · refine aw_iconst (v := (-1)) K dX6_sheet_20 (by decide) ?_
    refine aw_iret K rfl dX6_sheet_21 ?_
    exact DPi (by rw [sheetF, if_neg (fun q => bI_0.mp b4 q.1)])
  · refine aw_il2 K dX6_sheet_7 ?_
    refine aw_callS_I K (tX6_isLane l g sta _ _) rfl (by decide) fX6_isLane lX6_287 dX6_sheet_8 rfl (Nat.le_of_ble_eq_true rfl) ?_
    refine aw_if_eq (tgt := 20) K dX6_sheet_11 (by decide) (fun b11 => ?_) (fun b11 => ?_)
    · refine aw_iconst (v := (-1)) K dX6_sheet_20 (by decide) ?_
      refine aw_iret K rfl dX6_sheet_21 ?_
      exact DPi (by rw [sheetF, if_neg (fun q => bI_0.mp b11 q.2.1)])
    · refine aw_il3 K dX6_sheet_14 ?_
      refine aw_bipush (v := 48) K dX6_sheet_15 (by decide) ?_
      refine aw_icmp_le (tgt := 22) K dX6_sheet_17 (by decide) (fun b17 => ?_) (fun b17 => ?_)
      · refine aw_il3 K dX6_sheet_22 ?_
        refine aw_if_ge (tgt := 29) K dX6_sheet_23 (by decide) (fun b23 => ?_) (fun b23 => ?_)
        · obtain ⟨j, hj, rfl⟩ := sh_in (bI_1.mp b4)
          obtain ⟨hl1, hl2, hl3⟩ := sh_lay j hj
          refine aw_al0 K dX6_sheet_29 ?_
          refine aw_getR K gX6_46 dX6_sheet_30 rfl rfl ?_
          refine aw_il1 K dX6_sheet_33 ?_
          refine aw_aald K dX6_sheet_34 rfl (vp_in_nI hj (by decide)) (by rw [nI_clamp (by omega)]; exact hl3) ?_
          refine aw_il2 K dX6_sheet_35 ?_
          refine aw_il3 K dX6_sheet_36 ?_
          refine aw_callV_V K (tX2_renewRow l g sta _ (7 + j) _ _ hl1 hl2) rfl (by decide) fX2_renewRow lX6_290 dX6_sheet_37 hl1 clsX2 rfl (Nat.le_of_ble_eq_true rfl) ?_
          refine aw_iconst (v := 1) K dX6_sheet_40 (by decide) ?_
          refine aw_iret K rfl dX6_sheet_41 ?_
          exact DPi (by rw [sheetF, if_pos ⟨bI_1.mp b4, bI_1.mp b11, b17⟩, if_pos b23, nI_clamp (show j < 2 ^ 31 by omega)])
        · refine aw_bipush (v := (-14)) K dX6_sheet_26 (by decide) ?_
          refine aw_iret K rfl dX6_sheet_28 ?_
          exact DPi (by rw [sheetF, if_pos ⟨bI_1.mp b4, bI_1.mp b11, b17⟩, if_neg b23])
      · refine aw_iconst (v := (-1)) K dX6_sheet_20 (by decide) ?_
        refine aw_iret K rfl dX6_sheet_21 ?_
        exact DPi (by rw [sheetF, if_neg (fun q => b17 q.2.2)])

set_option maxHeartbeats 4000000 in
set_option maxRecDepth 100000 in
theorem tX6_lay (l : Launch) (g : Geo) (sta : Nat → Nat) (h : HS) (a b c : Int32) (hz : ∀ j, j < 4 → SZ h (7 + j)) : CT (wX l g sta) 7 mX6_lay [.ref (g.2.1 0), .int a, .int b, .int c] h (DP (layF h a b c)) := by
  refine CT.at [some (.ref (g.2.1 0)), some (.int a), some (.int b), some (.int c), none] 1 rfl (by decide) (Nat.le_of_ble_eq_true rfl) (fun k K => ?_)
  refine aw_il1 K dX6_lay_0 ?_
  refine aw_callS_I K (tX6_isSheet l g sta _ _) rfl (by decide) fX6_isSheet lX6_284 dX6_lay_1 rfl (Nat.le_of_ble_eq_true rfl) ?_
  refine aw_if_ne (tgt := 9) K dX6_lay_4 (by decide) (fun b4 => ?_) (fun b4 => ?_)
  · obtain ⟨j, hj, rfl⟩ := sh_in (bI_1.mp b4)
    obtain ⟨hl1, hl2, hl3⟩ := sh_lay j hj
    refine aw_al0 K dX6_lay_9 ?_
    refine aw_getR K gX6_46 dX6_lay_10 rfl rfl ?_
    refine aw_il1 K dX6_lay_13 ?_
    refine aw_aald K dX6_lay_14 rfl (vp_in_nI hj (by decide)) (by rw [nI_clamp (by omega)]; exact hl3) ?_
    refine aw_il2 K dX6_lay_15 ?_
    refine aw_callV_I K (tX2_faultAt l g sta _ (7 + j) _ hl1) rfl (by decide) fX2_faultAt lX6_294 dX6_lay_16 hl1 clsX2 rfl (Nat.le_of_ble_eq_true rfl) ?_
    refine aw_is4 K dX6_lay_19 (by decide) rfl ?_
    refine aw_il4 K dX6_lay_21 ?_
    refine aw_if_eq (tgt := 32) K dX6_lay_23 (by decide) (fun b23 => ?_) (fun b23 => ?_)
    · refine aw_al0 K dX6_lay_32 ?_
      refine aw_getR K gX6_46 dX6_lay_33 rfl rfl ?_
      refine aw_il1 K dX6_lay_36 ?_
      refine aw_aald K dX6_lay_37 rfl (vp_in_nI hj (by decide)) (by rw [nI_clamp (by omega)]; exact hl3) ?_
      refine aw_il2 K dX6_lay_38 ?_
      refine aw_il3 K dX6_lay_39 ?_
      refine aw_callV_V K (tX2_put l g sta _ (7 + j) _ _ hl1 hl2 (hz j hj)) rfl (by decide) fX2_put lX6_297 dX6_lay_40 hl1 clsX2 rfl (Nat.le_of_ble_eq_true rfl) ?_
      refine aw_iconst (v := 1) K dX6_lay_43 (by decide) ?_
      refine aw_iret K rfl dX6_lay_44 ?_
      exact DPi (by rw [layF, if_pos (bI_1.mp b4), nI_clamp (show j < 2 ^ 31 by omega), if_pos b23])
    · refine aw_bipush (v := (-10)) K dX6_lay_26 (by decide) ?_
      refine aw_il4 K dX6_lay_28 ?_
      refine aw_isub K dX6_lay_30 ?_
      refine aw_iret K rfl dX6_lay_31 ?_
      exact DPi (by rw [layF, if_pos (bI_1.mp b4), nI_clamp (show j < 2 ^ 31 by omega), if_neg b23])
  · refine aw_iconst (v := (-1)) K dX6_lay_7 (by decide) ?_
    refine aw_iret K rfl dX6_lay_8 ?_
    exact DPi (by rw [layF, if_neg (bI_0.mp b4)])

