theorem sh_lay : ∀ j, j < 4 → layX[7 + j]? = some (5, 0, [7 + j + 33 + 2, 0, 0]) ∧ layX[7 + j + 33]? = some (0, 48, []) ∧ ([7, 8, 9, 10] : List Nat)[j]? = some (7 + j) := by decide
theorem sh_in {a : Int32} (h : 0 ≤ a ∧ a ≤ 3) : ∃ j : Nat, j < 4 ∧ a = nI j := vp_in_of (inB (M := 3) (by decide) h) (by decide)
/-- a sheet's size: none, or 0 to 48 -/
def SZ (h : HS) (c : Nat) : Prop := h.1 c 2 = -1 ∨ ∃ z : Nat, z ≤ 48 ∧ h.1 c 2 = nI z
theorem sz_in {h : HS} {c : Nat} {a : Int32} (hz : SZ h c) (q : 0 ≤ a ∧ a ≤ h.1 c 2 - 1) : vp_in a 48 := by
  rcases hz with e | ⟨z, hz, e⟩
  · rw [e] at q
    exact absurd (Int32.le_trans q.1 q.2) (by decide)
  · exact inN e hz (by decide) q
def faV (h : HS) (c : Nat) (a : Int32) : Int32 := if h.1 c 2 = -1 then 1 else if 0 ≤ a ∧ a ≤ h.1 c 2 - 1 then 0 else 2
def nrV (la b : Int32) : Int32 := if la.toInt = 0 then b.toInt8.toInt32 else if la.toInt = 1 then b.toInt16.toInt32 else b
def putF (h : HS) (c : Nat) (a b : Int32) : HS := if 0 ≤ a ∧ a ≤ h.1 c 2 - 1 then setI h (c + 33) a.toNatClampNeg (nrV (h.1 c 1) b) else h
def rnwF (h : HS) (c : Nat) (a b : Int32) : HS := setI (setI (setR h (c + 33) (fil (h.1 (c + 33)) 48 0)) c 1 a) c 2 b
def sheetF (h : HS) (a b c : Int32) : Int32 × HS := if (0 ≤ a ∧ a ≤ 3) ∧ (0 ≤ b ∧ b ≤ 2) ∧ c ≤ 48 then (if 0 ≤ c then (1, rnwF h (7 + a.toNatClampNeg) b c) else (-14, h)) else (-1, h)
def layF (h : HS) (a b c : Int32) : Int32 × HS := if 0 ≤ a ∧ a ≤ 3 then (if faV h (7 + a.toNatClampNeg) b = 0 then (1, putF h (7 + a.toNatClampNeg) b c) else (-10 - faV h (7 + a.toNatClampNeg) b, h)) else (-1, h)
set_option maxHeartbeats 4000000 in
set_option maxRecDepth 100000 in
theorem tX2_faultAt (l : Launch) (g : Geo) (sta : Nat → Nat) (h : HS) (c : Nat) (a : Int32) (hc : layX[c]? = some (5, 0, [c + 33 + 2, 0, 0])) : CT (wX l g sta) 3 mX2_faultAt [.ref (g.2.1 c), .int a] h (DI (faV h c a) h) := by
  refine CT.at [some (.ref (g.2.1 c)), some (.int a)] 0 rfl (by decide) (Nat.le_of_ble_eq_true rfl) (fun k K => ?_)
  refine aw_al0 K dX2_faultAt_0 ?_
  refine aw_callV_I K (tX2_isNothing l g sta _ c hc) rfl (by decide) fX2_isNothing lX2_28 dX2_faultAt_1 hc clsX2 rfl (Nat.le_of_ble_eq_true rfl) ?_
  refine aw_if_eq (tgt := 9) K dX2_faultAt_4 (by decide) (fun b4 => ?_) (fun b4 => ?_)
  · refine aw_il1 K dX2_faultAt_9 ?_
    refine aw_iconst (v := 0) K dX2_faultAt_10 (by decide) ?_
    refine aw_al0 K dX2_faultAt_11 ?_
    refine aw_getI K gX2_15 dX2_faultAt_12 hc rfl ?_
    refine aw_iconst (v := 1) K dX2_faultAt_15 (by decide) ?_
    refine aw_isub K dX2_faultAt_16 ?_
    refine aw_callSN_I K (tX6_within l g sta _ _ _ _) rfl (by decide) fX6_within lX2_32 dX2_faultAt_17 rfl (Nat.le_of_ble_eq_true rfl) ?_
    refine aw_if_eq (tgt := 27) K dX2_faultAt_20 (by decide) (fun b20 => ?_) (fun b20 => ?_)
    · refine aw_iconst (v := 2) K dX2_faultAt_27 (by decide) ?_
      refine aw_iret K rfl dX2_faultAt_28 ?_
      refine ⟨?_, rfl⟩
      rw [faV, if_neg (bI_0.mp b4), if_neg (bI_0.mp b20)]
    · refine aw_iconst (v := 0) K dX2_faultAt_23 (by decide) ?_
      refine aw_goto (tgt := 28) K dX2_faultAt_24 (by decide) ?_
      refine aw_iret K rfl dX2_faultAt_28 ?_
      refine ⟨?_, rfl⟩
      rw [faV, if_neg (bI_0.mp b4), if_pos (bI_1.mp b20)]
  · refine aw_iconst (v := 1) K dX2_faultAt_7 (by decide) ?_
    refine aw_iret K rfl dX2_faultAt_8 ?_
    refine ⟨?_, rfl⟩
    rw [faV, if_pos (bI_1.mp b4)]

set_option maxHeartbeats 4000000 in
set_option maxRecDepth 100000 in
theorem tX2_put (l : Launch) (g : Geo) (sta : Nat → Nat) (h : HS) (c : Nat) (a b : Int32) (hc : layX[c]? = some (5, 0, [c + 33 + 2, 0, 0])) (hc2 : layX[c + 33]? = some (0, 48, [])) (hz : SZ h c) : CT (wX l g sta) 3 mX2_put [.ref (g.2.1 c), .int a, .int b] h (DV (putF h c a b)) := by
  refine CT.at [some (.ref (g.2.1 c)), some (.int a), some (.int b)] 0 rfl (by decide) (Nat.le_of_ble_eq_true rfl) (fun k K => ?_)
  refine aw_il1 K dX2_put_0 ?_
  refine aw_iconst (v := 0) K dX2_put_1 (by decide) ?_
  refine aw_al0 K dX2_put_2 ?_
  refine aw_getI K gX2_15 dX2_put_3 hc rfl ?_
  refine aw_iconst (v := 1) K dX2_put_6 (by decide) ?_
  refine aw_isub K dX2_put_7 ?_
  refine aw_callSN_I K (tX6_within l g sta _ _ _ _) rfl (by decide) fX6_within lX2_32 dX2_put_8 rfl (Nat.le_of_ble_eq_true rfl) ?_
  refine aw_if_ne (tgt := 15) K dX2_put_11 (by decide) (fun b11 => ?_) (fun b11 => ?_)
  · have ha := sz_in hz (bI_1.mp b11)
    refine aw_al0 K dX2_put_15 ?_
    refine aw_getI K gX2_25 dX2_put_16 hc rfl ?_
    refine aw_lk2 (ta := 44) (tb := 55) (td := 66) K dX2_put_19 (by decide) (by decide) (by decide) (by decide) (fun s0 => ?_) (fun s1 => ?_) (fun s0 s1 => ?_)
    · refine aw_al0 K dX2_put_44 ?_
      refine aw_getR K gX2_11 dX2_put_45 hc rfl ?_
      refine aw_il1 K dX2_put_48 ?_
      refine aw_il2 K dX2_put_49 ?_
      refine aw_i2b K dX2_put_50 ?_
      refine aw_iast K dX2_put_51 hc2 ha ?_
      refine aw_goto (tgt := 73) K dX2_put_52 (by decide) ?_
      refine aw_vret K rfl dX2_put_73 ?_
      exact ⟨rfl, by rw [putF, if_pos (bI_1.mp b11), nrV, if_pos s0]⟩
    · refine aw_al0 K dX2_put_55 ?_
      refine aw_getR K gX2_11 dX2_put_56 hc rfl ?_
      refine aw_il1 K dX2_put_59 ?_
      refine aw_il2 K dX2_put_60 ?_
      refine aw_i2s K dX2_put_61 ?_
      refine aw_iast K dX2_put_62 hc2 ha ?_
      refine aw_goto (tgt := 73) K dX2_put_63 (by decide) ?_
      refine aw_vret K rfl dX2_put_73 ?_
      exact ⟨rfl, by rw [putF, if_pos (bI_1.mp b11), nrV, if_neg (by rw [s1]; decide), if_pos s1]⟩
    · refine aw_al0 K dX2_put_66 ?_
      refine aw_getR K gX2_11 dX2_put_67 hc rfl ?_
      refine aw_il1 K dX2_put_70 ?_
      refine aw_il2 K dX2_put_71 ?_
      refine aw_iast K dX2_put_72 hc2 ha ?_
      refine aw_vret K rfl dX2_put_73 ?_
      exact ⟨rfl, by rw [putF, if_pos (bI_1.mp b11), nrV, if_neg s0, if_neg s1]⟩
  · refine aw_vret K rfl dX2_put_14 ?_
    exact ⟨rfl, by rw [putF, if_neg (bI_0.mp b11)]⟩

set_option maxHeartbeats 4000000 in
set_option maxRecDepth 100000 in
theorem tX2_renewRow (l : Launch) (g : Geo) (sta : Nat → Nat) (h : HS) (c : Nat) (a b : Int32) (hc : layX[c]? = some (5, 0, [c + 33 + 2, 0, 0])) (hc2 : layX[c + 33]? = some (0, 48, [])) : CT (wX l g sta) 2 mX2_renewRow [.ref (g.2.1 c), .int a, .int b] h (DV (rnwF h c a b)) := by
  refine CT.at [some (.ref (g.2.1 c)), some (.int a), some (.int b)] 0 rfl (by decide) (Nat.le_of_ble_eq_true rfl) (fun k K => ?_)
  refine aw_al0 K dX2_renewRow_0 ?_
  refine aw_getR K gX2_11 dX2_renewRow_1 hc rfl ?_
  refine aw_iconst (v := 0) K dX2_renewRow_4 (by decide) ?_
  refine aw_callS_V K (tJ7_fill_53178 l g sta _ (c + 33) 48 [] 0 hc2 (by decide)) rfl (by decide) fJ7_fill_53178 lX2_19 dX2_renewRow_5 rfl (Nat.le_of_ble_eq_true rfl) ?_
  refine aw_al0 K dX2_renewRow_8 ?_
  refine aw_il1 K dX2_renewRow_9 ?_
  refine aw_putI K gX2_25 fpX2_1 dX2_renewRow_10 hc rfl ?_
  refine aw_al0 K dX2_renewRow_13 ?_
  refine aw_il2 K dX2_renewRow_14 ?_
  refine aw_putI K gX2_15 fpX2_2 dX2_renewRow_15 hc rfl ?_
  refine aw_vret K rfl dX2_renewRow_18 ?_
  exact ⟨rfl, rfl⟩

set_option maxHeartbeats 4000000 in
set_option maxRecDepth 100000 in
theorem tX6_sheet (l : Launch) (g : Geo) (sta : Nat → Nat) (h : HS) (a b c : Int32) : CT (wX l g sta) 7 mX6_sheet [.ref (g.2.1 0), .int a, .int b, .int c] h (DP (sheetF h a b c)) := by
  refine CT.at [some (.ref (g.2.1 0)), some (.int a), some (.int b), some (.int c)] 0 rfl (by decide) (Nat.le_of_ble_eq_true rfl) (fun k K => ?_)
  refine aw_il1 K dX6_sheet_0 ?_
  refine aw_callS_I K (tX6_isSheet l g sta _ _) rfl (by decide) fX6_isSheet lX6_284 dX6_sheet_1 rfl (Nat.le_of_ble_eq_true rfl) ?_
  refine aw_if_eq (tgt := 20) K dX6_sheet_4 (by decide) (fun b4 => ?_) (fun b4 => ?_)
  · refine aw_iconst (v := (-1)) K dX6_sheet_20 (by decide) ?_
    refine aw_iret K rfl dX6_sheet_21 ?_
    exact DPi (by rw [sheetF, if_neg (fun q => bI_0.mp b4 q.1)])
  · refine aw_il2 K dX6_sheet_7 ?_
    refine aw_callS_I K (tX6_isLane l g sta _ _) rfl (by decide) fX6_isLane lX6_287 dX6_sheet_8 rfl (Nat.le_of_ble_eq_true rfl) ?_
    refine aw_if_eq (tgt := 20) K dX6_sheet_11 (by decide) (fun b11 => ?_) (fun b11 => ?_)
    · refine aw_iconst (v := (-1)) K dX6_sheet_20 (by decide) ?_
      refine aw_iret K rfl dX6_sheet_21 ?_
      exact DPi (by rw [sheetF, if_neg (fun q => bI_0.mp b11 q.2.1)])
    · refine aw_il3 K dX6_sheet_14 ?_
      refine aw_bipush (v := 48) K dX6_sheet_15 (by decide) ?_
      refine aw_icmp_le (tgt := 22) K dX6_sheet_17 (by decide) (fun b17 => ?_) (fun b17 => ?_)
      · refine aw_il3 K dX6_sheet_22 ?_
        refine aw_if_ge (tgt := 29) K dX6_sheet_23 (by decide) (fun b23 => ?_) (fun b23 => ?_)
        · obtain ⟨j, hj, rfl⟩ := sh_in (bI_1.mp b4)
          obtain ⟨hl1, hl2, hl3⟩ := sh_lay j hj
          refine aw_al0 K dX6_sheet_29 ?_
          refine aw_getR K gX6_46 dX6_sheet_30 rfl rfl ?_
          refine aw_il1 K dX6_sheet_33 ?_
          refine aw_aald K dX6_sheet_34 rfl (vp_in_nI hj (by decide)) (by rw [nI_clamp (by omega)]; exact hl3) ?_
          refine aw_il2 K dX6_sheet_35 ?_
          refine aw_il3 K dX6_sheet_36 ?_
          refine aw_callV_V K (tX2_renewRow l g sta _ (7 + j) _ _ hl1 hl2) rfl (by decide) fX2_renewRow lX6_290 dX6_sheet_37 hl1 clsX2 rfl (Nat.le_of_ble_eq_true rfl) ?_
          refine aw_iconst (v := 1) K dX6_sheet_40 (by decide) ?_
          refine aw_iret K rfl dX6_sheet_41 ?_
          exact DPi (by rw [sheetF, if_pos ⟨bI_1.mp b4, bI_1.mp b11, b17⟩, if_pos b23, nI_clamp (show j < 2 ^ 31 by omega)])
        · refine aw_bipush (v := (-14)) K dX6_sheet_26 (by decide) ?_
          refine aw_iret K rfl dX6_sheet_28 ?_
          exact DPi (by rw [sheetF, if_pos ⟨bI_1.mp b4, bI_1.mp b11, b17⟩, if_neg b23])
      · refine aw_iconst (v := (-1)) K dX6_sheet_20 (by decide) ?_
        refine aw_iret K rfl dX6_sheet_21 ?_
        exact DPi (by rw [sheetF, if_neg (fun q => b17 q.2.2)])

set_option maxHeartbeats 4000000 in
set_option maxRecDepth 100000 in
theorem tX6_lay (l : Launch) (g : Geo) (sta : Nat → Nat) (h : HS) (a b c : Int32) (hz : ∀ j, j < 4 → SZ h (7 + j)) : CT (wX l g sta) 7 mX6_lay [.ref (g.2.1 0), .int a, .int b, .int c] h (DP (layF h a b c)) := by
  refine CT.at [some (.ref (g.2.1 0)), some (.int a), some (.int b), some (.int c), none] 1 rfl (by decide) (Nat.le_of_ble_eq_true rfl) (fun k K => ?_)
  refine aw_il1 K dX6_lay_0 ?_
  refine aw_callS_I K (tX6_isSheet l g sta _ _) rfl (by decide) fX6_isSheet lX6_284 dX6_lay_1 rfl (Nat.le_of_ble_eq_true rfl) ?_
  refine aw_if_ne (tgt := 9) K dX6_lay_4 (by decide) (fun b4 => ?_) (fun b4 => ?_)
  · obtain ⟨j, hj, rfl⟩ := sh_in (bI_1.mp b4)
    obtain ⟨hl1, hl2, hl3⟩ := sh_lay j hj
    refine aw_al0 K dX6_lay_9 ?_
    refine aw_getR K gX6_46 dX6_lay_10 rfl rfl ?_
    refine aw_il1 K dX6_lay_13 ?_
    refine aw_aald K dX6_lay_14 rfl (vp_in_nI hj (by decide)) (by rw [nI_clamp (by omega)]; exact hl3) ?_
    refine aw_il2 K dX6_lay_15 ?_
    refine aw_callV_I K (tX2_faultAt l g sta _ (7 + j) _ hl1) rfl (by decide) fX2_faultAt lX6_294 dX6_lay_16 hl1 clsX2 rfl (Nat.le_of_ble_eq_true rfl) ?_
    refine aw_is4 K dX6_lay_19 (by decide) rfl ?_
    refine aw_il4 K dX6_lay_21 ?_
    refine aw_if_eq (tgt := 32) K dX6_lay_23 (by decide) (fun b23 => ?_) (fun b23 => ?_)
    · refine aw_al0 K dX6_lay_32 ?_
      refine aw_getR K gX6_46 dX6_lay_33 rfl rfl ?_
      refine aw_il1 K dX6_lay_36 ?_
      refine aw_aald K dX6_lay_37 rfl (vp_in_nI hj (by decide)) (by rw [nI_clamp (by omega)]; exact hl3) ?_
      refine aw_il2 K dX6_lay_38 ?_
      refine aw_il3 K dX6_lay_39 ?_
      refine aw_callV_V K (tX2_put l g sta _ (7 + j) _ _ hl1 hl2 (hz j hj)) rfl (by decide) fX2_put lX6_297 dX6_lay_40 hl1 clsX2 rfl (Nat.le_of_ble_eq_true rfl) ?_
      refine aw_iconst (v := 1) K dX6_lay_43 (by decide) ?_
      refine aw_iret K rfl dX6_lay_44 ?_
      exact DPi (by rw [layF, if_pos (bI_1.mp b4), nI_clamp (show j < 2 ^ 31 by omega), if_pos b23])
    · refine aw_bipush (v := (-10)) K dX6_lay_26 (by decide) ?_
      refine aw_il4 K dX6_lay_28 ?_
      refine aw_isub K dX6_lay_30 ?_
      refine aw_iret K rfl dX6_lay_31 ?_
      exact DPi (by rw [layF, if_pos (bI_1.mp b4), nI_clamp (show j < 2 ^ 31 by omega), if_neg b23])
  · refine aw_iconst (v := (-1)) K dX6_lay_7 (by decide) ?_
    refine aw_iret K rfl dX6_lay_8 ?_
    exact DPi (by rw [layF, if_neg (bI_0.mp b4)])

def wwV (h : HS) (c : Nat) (la f n : Int32) : Int32 := if ¬ h.1 c 2 = -1 ∧ h.1 c 1 = la ∧ (0 ≤ f ∧ f ≤ h.1 c 2) then (if (h.1 c 2 - f) / 4 < n then (h.1 c 2 - f) / 4 else n) else 0
def forV (h : HS) (c : Nat) (la n wh : Int32) : Int32 := if wh = n then 0 else if h.1 c 2 = -1 then 1 else if h.1 c 1 = la then 2 else 3
theorem dv4 (z m : Nat) (hz : z ≤ 48) (hm : m ≤ z) : (nI z - nI m) / 4 = nI ((z - m) / 4) := by
  have q : ∀ a : Fin 49, ∀ b : Fin 49, b.1 ≤ a.1 → (nI a.1 - nI b.1) / 4 = nI ((a.1 - b.1) / 4) := by decide +kernel
  exact q ⟨z, by omega⟩ ⟨m, by omega⟩ hm
theorem ww_in {h : HS} {c : Nat} {la f n : Int32} (hz : SZ h c) (hn : 0 ≤ n ∧ n ≤ 12) : ∃ Wk : Nat, wwV h c la f n = nI Wk ∧ Wk ≤ 12 ∧ (Wk ≠ 0 → ∃ m : Nat, f = nI m ∧ m + 4 * Wk ≤ 48) := by
  obtain ⟨k, hk, rfl⟩ := vp_in_of (inB (M := 12) (by decide) hn) (by decide)
  unfold wwV
  by_cases q : ¬ h.1 c 2 = -1 ∧ h.1 c 1 = la ∧ (0 ≤ f ∧ f ≤ h.1 c 2)
  · rw [if_pos q]
    rcases hz with e | ⟨z, hz, e⟩
    · exact absurd e q.1
    · rw [e] at q ⊢
      obtain ⟨m, hm, rfl⟩ := nI_of (Int32.not_lt.mpr q.2.2.1)
      have hmz := (nI_leI hm (by omega)).mp q.2.2.2
      rw [dv4 z m hz hmz]
      by_cases y : (z - m) / 4 < k
      · rw [if_pos (nI_lt y (by omega))]
        exact ⟨(z - m) / 4, rfl, by omega, fun _ => ⟨m, rfl, by omega⟩⟩
      · rw [if_neg (nI_nlt (by omega) (by omega))]
        exact ⟨k, rfl, by omega, fun _ => ⟨m, rfl, by omega⟩⟩
  · rw [if_neg q]
    exact ⟨0, rfl, by omega, fun z => absurd rfl z⟩
theorem at4 (m i : Nat) : nI m + 4 * nI i = nI (m + 4 * i) := by
  rw [show (4 : Int32) * nI i = nI (4 * i) from (Int32.ofNat_mul 4 i).symm, nI_add]
theorem in4 {x k : Nat} (h : x + k < 48) : vp_in (nI x + nI k) 48 := by
  rw [nI_add]
  exact vp_in_nI h (by decide)
def chkV (h : HS) (c x : Nat) (z : Int32) : Int32 := refV h (h.1 (c + 33) (nI x).toNatClampNeg) (h.1 (c + 33) (nI x + 1).toNatClampNeg) (h.1 (c + 33) (nI x + 2).toNatClampNeg) (h.1 (c + 33) (nI x + 3).toNatClampNeg) z
def rdGo (h : HS) (c m Wk : Nat) (dn : Int32 × HS) : Nat → Int32 × HS
  | 0 => dn
  | n + 1 => if chkV h c (m + 4 * (Wk - (n + 1))) (nI (Wk - (n + 1))) = 0 then rdGo h c m Wk dn n else (if chkV h c (m + 4 * (Wk - (n + 1))) (nI (Wk - (n + 1))) = -3 then -3 else -20 - nI (Wk - (n + 1)), h)
def rdE (h : HS) (c x : Nat) (Wn : Nat) : HS := (wenF h (h.1 (c + 33) (nI x).toNatClampNeg) (h.1 (c + 33) (nI x + 1).toNatClampNeg) (h.1 (c + 33) (nI x + 2).toNatClampNeg) (h.1 (c + 33) (nI x + 3).toNatClampNeg) (h.1 0 11) Wn).2
def rdS (h : HS) (c m Wn : Nat) : Nat → HS
  | 0 => h
  | i + 1 => rdE (rdS h c m Wn i) c (m + 4 * i) (Wn + i)
def readF (h : HS) (a b f n : Int32) (Wn : Nat) : Int32 × HS := if (0 ≤ a ∧ a ≤ 3) ∧ (0 ≤ b ∧ b ≤ 2) ∧ (0 ≤ n ∧ n ≤ 12) then rdGo h (7 + a.toNatClampNeg) f.toNatClampNeg (wwV h (7 + a.toNatClampNeg) b f n).toNatClampNeg (wwV h (7 + a.toNatClampNeg) b f n, setI (rdS h (7 + a.toNatClampNeg) f.toNatClampNeg Wn (wwV h (7 + a.toNatClampNeg) b f n).toNatClampNeg) 0 12 (forV (rdS h (7 + a.toNatClampNeg) f.toNatClampNeg Wn (wwV h (7 + a.toNatClampNeg) b f n).toNatClampNeg) (7 + a.toNatClampNeg) b n (wwV h (7 + a.toNatClampNeg) b f n))) (wwV h (7 + a.toNatClampNeg) b f n).toNatClampNeg else (-1, h)
theorem ref_0 {h : HS} {a b c e z : Int32} (q : refV h a b c e z = 0) : (0 ≤ a ∧ a ≤ h.1 1 5 - 1) ∧ (0 ≤ b ∧ b ≤ h.1 1 5 - 1) ∧ h.1 3 7 + z < 24 := by
  unfold refV at q
  split at q
  · rename_i y
    split at q
    · rename_i x
      exact ⟨y.1.1, y.1.2.1, x⟩
    · exact absurd q (by decide)
  · exact absurd q (by decide)
theorem wen_XW {h : HS} {a b c e z : Int32} {N T Wn : Nat} (H : XW h N T Wn) (ha : vp_in a 12) (hb : vp_in b 12) (hw : Wn < 24) : XW (wenF h a b c e z Wn).2 N T (Wn + 1) := by
  obtain ⟨h1, h2, h3, h4, h5, h6, h7, h8, h9⟩ := H
  have q : h.1 3 7 < 24 := by
    rw [h3.1]
    exact nI_lt (b := 24) (by omega) (by decide)
  unfold wenF
  rw [if_pos q]
  refine ⟨h1, h2, ⟨?_, by omega⟩, h4, h5, h6, fun t => ?_, fun t => ?_, h9⟩
  · show (setI _ 3 7 _).1 3 7 = _
    rw [rdI, if_pos ⟨rfl, rfl⟩, h3.1, nI_1]
  · show vp_in ((setI (setI h 32 _ _) 26 _ a).1 26 t) 12
    rw [rdI]
    split
    · exact ha
    · exact h7 t
  · show vp_in ((setI (setI (setI h 32 _ _) 26 _ a) 27 _ b).1 27 t) 12
    rw [rdI]
    split
    · exact hb
    · exact h8 t
/-- rows that words do not touch -/
def nwd (q : Nat) : Bool := !(q == 3 || q == 26 || q == 27 || q == 28 || q == 29 || q == 30 || q == 31 || q == 32)
theorem setI_w {h : HS} {c j a : Nat} {v : Int32} (q : a ≠ c) : (setI h c j v).1 a = h.1 a := if_neg q
theorem wen_o {h : HS} {a b c e z : Int32} {Wn q : Nat} (hq : nwd q = true) : (wenF h a b c e z Wn).2.1 q = h.1 q := by
  unfold wenF
  split
  · simp only [nwd, Bool.not_eq_true', Bool.or_eq_false_iff, beq_eq_false_iff_ne] at hq
    obtain ⟨⟨⟨⟨⟨⟨⟨q1, q2⟩, q3⟩, q4⟩, q5⟩, q6⟩, q7⟩, q8⟩ := hq
    show (setI _ 3 7 _).1 q = _
    rw [setI_w q1, setI_w q6, setI_w q5, setI_w q4, setI_w q7, setI_w q3, setI_w q2, setI_w q8]
  · rfl
theorem rdS_o {h : HS} {c m Wn q : Nat} (hq : nwd q = true) : ∀ i, (rdS h c m Wn i).1 q = h.1 q
  | 0 => rfl
  | i + 1 => (wen_o hq).trans (rdS_o hq i)
set_option maxHeartbeats 4000000 in
set_option maxRecDepth 100000 in
theorem tX2_wholeWords (l : Launch) (g : Geo) (sta : Nat → Nat) (h : HS) (c : Nat) (a b e : Int32) (hc : layX[c]? = some (5, 0, [c + 33 + 2, 0, 0])) : CT (wX l g sta) 3 mX2_wholeWords [.ref (g.2.1 c), .int a, .int b, .int e] h (DI (wwV h c a b e) h) := by
  refine CT.at [some (.ref (g.2.1 c)), some (.int a), some (.int b), some (.int e)] 0 rfl (by decide) (Nat.le_of_ble_eq_true rfl) (fun k K => ?_)
  refine aw_al0 K dX2_wholeWords_0 ?_
  refine aw_callV_I K (tX2_isNothing l g sta _ c hc) rfl (by decide) fX2_isNothing lX2_28 dX2_wholeWords_1 hc clsX2 rfl (Nat.le_of_ble_eq_true rfl) ?_
  refine aw_if_ne (tgt := 27) K dX2_wholeWords_4 (by decide) (fun b4 => ?_) (fun b4 => ?_)
  · refine aw_iconst (v := 0) K dX2_wholeWords_27 (by decide) ?_
    refine aw_iret K rfl dX2_wholeWords_28 ?_
    refine ⟨?_, rfl⟩
    rw [wwV, if_neg (fun q => q.1 (bI_1.mp b4))]
  · refine aw_al0 K dX2_wholeWords_7 ?_
    refine aw_getI K gX2_25 dX2_wholeWords_8 hc rfl ?_
    refine aw_il1 K dX2_wholeWords_11 ?_
    refine aw_icmp_ne (tgt := 27) K dX2_wholeWords_12 (by decide) (fun b12 => ?_) (fun b12 => ?_)
    · refine aw_iconst (v := 0) K dX2_wholeWords_27 (by decide) ?_
      refine aw_iret K rfl dX2_wholeWords_28 ?_
      refine ⟨?_, rfl⟩
      rw [wwV, if_neg (fun q => b12 q.2.1)]
    · refine aw_il2 K dX2_wholeWords_15 ?_
      refine aw_iconst (v := 0) K dX2_wholeWords_16 (by decide) ?_
      refine aw_al0 K dX2_wholeWords_17 ?_
      refine aw_getI K gX2_15 dX2_wholeWords_18 hc rfl ?_
      refine aw_callSN_I K (tX6_within l g sta _ _ _ _) rfl (by decide) fX6_within lX2_32 dX2_wholeWords_21 rfl (Nat.le_of_ble_eq_true rfl) ?_
      refine aw_if_ne (tgt := 29) K dX2_wholeWords_24 (by decide) (fun b24 => ?_) (fun b24 => ?_)
      · refine aw_il3 K dX2_wholeWords_29 ?_
        refine aw_al0 K dX2_wholeWords_30 ?_
        refine aw_getI K gX2_15 dX2_wholeWords_31 hc rfl ?_
        refine aw_il2 K dX2_wholeWords_34 ?_
        refine aw_isub K dX2_wholeWords_35 ?_
        refine aw_iconst (v := 4) K dX2_wholeWords_36 (by decide) ?_
        refine aw_idiv K dX2_wholeWords_37 (by decide) ?_
        refine aw_mmin K (aw_in 813 (by decide +kernel) rfl) cw_min1 cw_min2 cw_min3 (by decide) (Nat.le_of_ble_eq_true rfl) dX2_wholeWords_38 ?_
        refine aw_iret K rfl dX2_wholeWords_41 ?_
        refine ⟨?_, rfl⟩
        rw [wwV, if_pos (show ¬ h.1 c 2 = -1 ∧ h.1 c 1 = a ∧ (0 ≤ b ∧ b ≤ h.1 c 2) from ⟨bI_0.mp b4, b12, bI_1.mp b24⟩)]
      · refine aw_iconst (v := 0) K dX2_wholeWords_27 (by decide) ?_
        refine aw_iret K rfl dX2_wholeWords_28 ?_
        refine ⟨?_, rfl⟩
        rw [wwV, if_neg (fun q => bI_0.mp b24 q.2.2)]

set_option maxHeartbeats 4000000 in
set_option maxRecDepth 100000 in
theorem tX2_faultOfReading (l : Launch) (g : Geo) (sta : Nat → Nat) (h : HS) (c : Nat) (a b e : Int32) (hc : layX[c]? = some (5, 0, [c + 33 + 2, 0, 0])) : CT (wX l g sta) 3 mX2_faultOfReading [.ref (g.2.1 c), .int a, .int b, .int e] h (DI (forV h c a b e) h) := by
  refine CT.at [some (.ref (g.2.1 c)), some (.int a), some (.int b), some (.int e)] 0 rfl (by decide) (Nat.le_of_ble_eq_true rfl) (fun k K => ?_)
  refine aw_il3 K dX2_faultOfReading_0 ?_
  refine aw_il2 K dX2_faultOfReading_1 ?_
  refine aw_icmp_ne (tgt := 7) K dX2_faultOfReading_2 (by decide) (fun b2 => ?_) (fun b2 => ?_)
  · refine aw_al0 K dX2_faultOfReading_7 ?_
    refine aw_callV_I K (tX2_isNothing l g sta _ c hc) rfl (by decide) fX2_isNothing lX2_28 dX2_faultOfReading_8 hc clsX2 rfl (Nat.le_of_ble_eq_true rfl) ?_
    refine aw_if_eq (tgt := 16) K dX2_faultOfReading_11 (by decide) (fun b11 => ?_) (fun b11 => ?_)
    · refine aw_al0 K dX2_faultOfReading_16 ?_
      refine aw_getI K gX2_25 dX2_faultOfReading_17 hc rfl ?_
      refine aw_il1 K dX2_faultOfReading_20 ?_
      refine aw_icmp_ne (tgt := 28) K dX2_faultOfReading_21 (by decide) (fun b21 => ?_) (fun b21 => ?_)
      · refine aw_iconst (v := 3) K dX2_faultOfReading_28 (by decide) ?_
        refine aw_iret K rfl dX2_faultOfReading_29 ?_
        refine ⟨?_, rfl⟩
        rw [forV, if_neg b2, if_neg (bI_0.mp b11), if_neg b21]
      · refine aw_iconst (v := 2) K dX2_faultOfReading_24 (by decide) ?_
        refine aw_goto (tgt := 29) K dX2_faultOfReading_25 (by decide) ?_
        refine aw_iret K rfl dX2_faultOfReading_29 ?_
        refine ⟨?_, rfl⟩
        rw [forV, if_neg b2, if_neg (bI_0.mp b11), if_pos b21]
    · refine aw_iconst (v := 1) K dX2_faultOfReading_14 (by decide) ?_
      refine aw_iret K rfl dX2_faultOfReading_15 ?_
      refine ⟨?_, rfl⟩
      rw [forV, if_neg b2, if_pos (bI_1.mp b11)]
  · refine aw_iconst (v := 0) K dX2_faultOfReading_5 (by decide) ?_
    refine aw_iret K rfl dX2_faultOfReading_6 ?_
    refine ⟨?_, rfl⟩
    rw [forV, if_pos b2]

set_option maxHeartbeats 4000000 in
set_option maxRecDepth 100000 in
theorem lp1X6_read {l : Launch} {g : Geo} {sta : Nat → Nat} {k : KT} (K : AOK (wX l g sta) mX6_read k) (h : HS) (a b f n : Int32) (c m Wk : Nat) (hc : layX[c]? = some (5, 0, [c + 33 + 2, 0, 0])) (hc2 : layX[c + 33]? = some (0, 48, [])) (hW : Wk ≤ 12) (hf : Wk ≠ 0 → f = nI m ∧ m + 4 * Wk ≤ 48) {N T Wn : Nat} (H : XW h N T Wn) (dn : Int32 × HS)
    (hk : (∀ j, j < Wk → chkV h c (m + 4 * j) (nI j) = 0) → AW (wX l g sta) (DP dn) 7 mX6_read k 139 [some (.ref (g.2.1 0)), some (.int a), some (.int b), some (.int f), some (.int n), some (.ref (g.2.1 c)), some (.int (nI Wk)), none, none, none] [] h) :
    ∀ (n' i : Nat), i + n' = Wk → (∀ j, j < i → chkV h c (m + 4 * j) (nI j) = 0) → AW (wX l g sta) (DP (rdGo h c m Wk dn n')) 7 mX6_read k 49 [some (.ref (g.2.1 0)), some (.int a), some (.int b), some (.int f), some (.int n), some (.ref (g.2.1 c)), some (.int (nI Wk)), some (.int (nI i)), none, none] [] h := by
  intro n'
  induction n' with
  | zero =>
    intro i h1 hall
    obtain rfl : i = Wk := by omega
    show AW (wX l g sta) (DP dn) 7 mX6_read k 49 _ [] h
    refine aw_il7 K dX6_read_49 ?_
    refine aw_il6 K dX6_read_51 ?_
    refine aw_icmp_ge (tgt := 139) K dX6_read_53 (by decide) (fun b53 => ?_) (fun b53 => ?_)
    · refine aw_sub [some (.ref (g.2.1 0)), some (.int _), some (.int _), some (.int _), some (.int _), some (.ref _), some (.int _), none, none, none] ⟨rfl, rfl, rfl, rfl, rfl, rfl, rfl, trivial⟩ ?_
      exact hk hall
    · exact absurd (Int32.le_refl _) b53
  | succ n' ih =>
    intro i h1 hall
    obtain ⟨rfl, hm⟩ := hf (by omega)
    rw [show rdGo h c m Wk dn (n' + 1) = if chkV h c (m + 4 * i) (nI i) = 0 then rdGo h c m Wk dn n' else (if chkV h c (m + 4 * i) (nI i) = -3 then -3 else -20 - nI i, h) from by rw [rdGo, show Wk - (n' + 1) = i by omega]]
    refine aw_il7 K dX6_read_49 ?_
    refine aw_il6 K dX6_read_51 ?_
    refine aw_icmp_ge (tgt := 139) K dX6_read_53 (by decide) (fun b53 => ?_) (fun b53 => ?_)
    · exact absurd b53 (nI_ge (by omega) (by omega))
    · refine aw_il3 K dX6_read_56 ?_
      refine aw_iconst (v := 4) K dX6_read_57 (by decide) ?_
      refine aw_il7 K dX6_read_58 ?_
      refine aw_imul K dX6_read_60 ?_
      refine aw_iadd K dX6_read_61 ?_
      rw [at4]
      refine aw_is8 K dX6_read_62 (by decide) rfl ?_
      refine aw_al0 K dX6_read_64 ?_
      refine aw_al5 K dX6_read_65 ?_
      refine aw_getR K gX6_303 dX6_read_67 hc rfl ?_
      refine aw_il8 K dX6_read_70 ?_
      refine aw_iald K dX6_read_72 hc2 (vp_in_nI (by omega) (by decide)) ?_
      refine aw_al5 K dX6_read_73 ?_
      refine aw_getR K gX6_303 dX6_read_75 hc rfl ?_
      refine aw_il8 K dX6_read_78 ?_
      refine aw_iconst (v := 1) K dX6_read_80 (by decide) ?_
      refine aw_iadd K dX6_read_81 ?_
      refine aw_iald K dX6_read_82 hc2 (in4 (k := 1) (by omega)) ?_
      refine aw_al5 K dX6_read_83 ?_
      refine aw_getR K gX6_303 dX6_read_85 hc rfl ?_
      refine aw_il8 K dX6_read_88 ?_
      refine aw_iconst (v := 2) K dX6_read_90 (by decide) ?_
      refine aw_iadd K dX6_read_91 ?_
      refine aw_iald K dX6_read_92 hc2 (in4 (k := 2) (by omega)) ?_
      refine aw_al5 K dX6_read_93 ?_
      refine aw_getR K gX6_303 dX6_read_95 hc rfl ?_
      refine aw_il8 K dX6_read_98 ?_
      refine aw_iconst (v := 3) K dX6_read_100 (by decide) ?_
      refine aw_iadd K dX6_read_101 ?_
      refine aw_iald K dX6_read_102 hc2 (in4 (k := 3) (by omega)) ?_
      refine aw_il7 K dX6_read_103 ?_
      refine aw_callV_I K (tX6_refusalOf l g sta _ _ _ _ _ _ H) rfl (by decide) fX6_refusalOf lX6_214 dX6_read_105 rfl clsX6 rfl (Nat.le_of_ble_eq_true rfl) ?_
      refine aw_is9 K dX6_read_108 (by decide) rfl ?_
      refine aw_il9 K dX6_read_110 ?_
      refine aw_if_eq (tgt := 133) K dX6_read_112 (by decide) (fun b112 => ?_) (fun b112 => ?_)
      · refine aw_ii7 (v := _ + 1) K dX6_read_133 rfl (by decide) rfl ?_
        refine aw_goto (tgt := 49) K dX6_read_136 (by decide) ?_
        rw [if_pos (show chkV h c (m + 4 * i) (nI i) = 0 from b112), nI_1]
        refine aw_sub [some (.ref (g.2.1 0)), some (.int _), some (.int _), some (.int _), some (.int _), some (.ref _), some (.int _), some (.int _), none, none] ⟨rfl, rfl, rfl, rfl, rfl, rfl, rfl, rfl, trivial⟩ ?_
        exact ih (i + 1) (by omega) (fun j hj => by
          rcases Nat.lt_or_ge j i with q | q
          · exact hall j q
          · obtain rfl : j = i := by omega
            exact b112)
      · refine aw_il9 K dX6_read_115 ?_
        refine aw_bipush (v := (-3)) K dX6_read_117 (by decide) ?_
        refine aw_icmp_ne (tgt := 127) K dX6_read_119 (by decide) (fun b119 => ?_) (fun b119 => ?_)
        · refine aw_bipush (v := (-20)) K dX6_read_127 (by decide) ?_
          refine aw_il7 K dX6_read_129 ?_
          refine aw_isub K dX6_read_131 ?_
          refine aw_iret K rfl dX6_read_132 ?_
          exact DPi (by rw [if_neg (show ¬ chkV h c (m + 4 * i) (nI i) = 0 from b112), if_neg (show ¬ chkV h c (m + 4 * i) (nI i) = -3 from b119)])
        · refine aw_bipush (v := (-3)) K dX6_read_122 (by decide) ?_
          refine aw_goto (tgt := 132) K dX6_read_124 (by decide) ?_
          refine aw_iret K rfl dX6_read_132 ?_
          exact DPi (by rw [if_neg (show ¬ chkV h c (m + 4 * i) (nI i) = 0 from b112), if_pos (show chkV h c (m + 4 * i) (nI i) = -3 from b119)])
theorem rdS_XW {h : HS} {c m Wk N T Wn : Nat} (H : XW h N T Wn) (hn : nwd (c + 33) = true) (hW : Wk ≤ 12) (hall : ∀ j, j < Wk → chkV h c (m + 4 * j) (nI j) = 0) : ∀ i, i ≤ Wk → XW (rdS h c m Wn i) N T (Wn + i)
  | 0, _ => H
  | i + 1, hi => by
    have r := ref_0 (hall i (by omega))
    have hw : Wn + i < 24 := by
      have q := r.2.2
      rw [H.2.2.1.1, nI_add] at q
      have := H.2.2.1.2
      exact (nI_ltI (b := 24) (by omega) (by decide)).mp q
    show XW (rdE (rdS h c m Wn i) c (m + 4 * i) (Wn + i)) N T (Wn + i + 1)
    refine wen_XW (rdS_XW H hn hW hall i (by omega)) ?_ ?_ hw
    · rw [rdS_o hn]
      exact inN H.1.1 H.1.2 (by decide) r.1
    · rw [rdS_o hn]
      exact inN H.1.1 H.1.2 (by decide) r.2.1
set_option maxHeartbeats 4000000 in
set_option maxRecDepth 100000 in
theorem lp2X6_read {l : Launch} {g : Geo} {sta : Nat → Nat} {k : KT} (K : AOK (wX l g sta) mX6_read k) (h : HS) (a b f n : Int32) (c m Wk : Nat) (hc : layX[c]? = some (5, 0, [c + 33 + 2, 0, 0])) (hc2 : layX[c + 33]? = some (0, 48, [])) (hW : Wk ≤ 12) (hf : Wk ≠ 0 → f = nI m ∧ m + 4 * Wk ≤ 48) {N T Wn : Nat} (H : XW h N T Wn) (hn : nwd (c + 33) = true) (hall : ∀ j, j < Wk → chkV h c (m + 4 * j) (nI j) = 0) :
    ∀ (n' i : Nat), i + n' = Wk → AW (wX l g sta) (DP (nI Wk, setI (rdS h c m Wn Wk) 0 12 (forV (rdS h c m Wn Wk) c b n (nI Wk)))) 7 mX6_read k 142 [some (.ref (g.2.1 0)), some (.int a), some (.int b), some (.int f), some (.int n), some (.ref (g.2.1 c)), some (.int (nI Wk)), some (.int (nI i)), none, none] [] (rdS h c m Wn i) := by
  intro n'
  induction n' with
  | zero =>
    intro i h1
    obtain rfl : i = Wk := by omega
    refine aw_il7 K dX6_read_142 ?_
    refine aw_il6 K dX6_read_144 ?_
    refine aw_icmp_ge (tgt := 213) K dX6_read_146 (by decide) (fun b146 => ?_) (fun b146 => ?_)
    · refine aw_al0 K dX6_read_213 ?_
      refine aw_al5 K dX6_read_214 ?_
      refine aw_il2 K dX6_read_216 ?_
      refine aw_il4 K dX6_read_217 ?_
      refine aw_il6 K dX6_read_219 ?_
      refine aw_callV_I K (tX2_faultOfReading l g sta _ c _ _ _ hc) rfl (by decide) fX2_faultOfReading lX6_306 dX6_read_221 hc clsX2 rfl (Nat.le_of_ble_eq_true rfl) ?_
      refine aw_putI K gX6_309 fpX6_12 dX6_read_224 rfl rfl ?_
      refine aw_il6 K dX6_read_227 ?_
      refine aw_iret K rfl dX6_read_229 ?_
      exact DPi rfl
    · exact absurd (Int32.le_refl _) b146
  | succ n' ih =>
    intro i h1
    obtain ⟨rfl, hm⟩ := hf (by omega)
    refine aw_il7 K dX6_read_142 ?_
    refine aw_il6 K dX6_read_144 ?_
    refine aw_icmp_ge (tgt := 213) K dX6_read_146 (by decide) (fun b146 => ?_) (fun b146 => ?_)
    · exact absurd b146 (nI_ge (by omega) (by omega))
    · refine aw_il3 K dX6_read_149 ?_
      refine aw_iconst (v := 4) K dX6_read_150 (by decide) ?_
      refine aw_il7 K dX6_read_151 ?_
      refine aw_imul K dX6_read_153 ?_
      refine aw_iadd K dX6_read_154 ?_
      rw [at4]
      refine aw_is8 K dX6_read_155 (by decide) rfl ?_
      refine aw_al0 K dX6_read_157 ?_
      refine aw_getR K gX6_26 dX6_read_158 rfl rfl ?_
      refine aw_al5 K dX6_read_161 ?_
      refine aw_getR K gX6_303 dX6_read_163 hc rfl ?_
      refine aw_il8 K dX6_read_166 ?_
      refine aw_iald K dX6_read_168 hc2 (vp_in_nI (by omega) (by decide)) ?_
      refine aw_al5 K dX6_read_169 ?_
      refine aw_getR K gX6_303 dX6_read_171 hc rfl ?_
      refine aw_il8 K dX6_read_174 ?_
      refine aw_iconst (v := 1) K dX6_read_176 (by decide) ?_
      refine aw_iadd K dX6_read_177 ?_
      refine aw_iald K dX6_read_178 hc2 (in4 (k := 1) (by omega)) ?_
      refine aw_al5 K dX6_read_179 ?_
      refine aw_getR K gX6_303 dX6_read_181 hc rfl ?_
      refine aw_il8 K dX6_read_184 ?_
      refine aw_iconst (v := 2) K dX6_read_186 (by decide) ?_
      refine aw_iadd K dX6_read_187 ?_
      refine aw_iald K dX6_read_188 hc2 (in4 (k := 2) (by omega)) ?_
      refine aw_al5 K dX6_read_189 ?_
      refine aw_getR K gX6_303 dX6_read_191 hc rfl ?_
      refine aw_il8 K dX6_read_194 ?_
      refine aw_iconst (v := 3) K dX6_read_196 (by decide) ?_
      refine aw_iadd K dX6_read_197 ?_
      refine aw_iald K dX6_read_198 hc2 (in4 (k := 3) (by omega)) ?_
      refine aw_al0 K dX6_read_199 ?_
      refine aw_getI K gX6_113 dX6_read_200 rfl rfl ?_
      refine aw_callV K (tX5_enter l g sta _ _ _ _ _ _ (rdS_XW H hn hW hall i (by omega))) rfl (by decide) fX5_enter lX6_217 dX6_read_203 rfl clsX5 rfl (Nat.le_of_ble_eq_true rfl) (fun o h2 hq => ?_)
      obtain ⟨rfl, rfl⟩ := hq
      refine (show AW _ _ _ _ _ _ _ (.int _ :: _) _ from ?_)
      refine aw_pop K dX6_read_206 rfl ?_
      refine aw_ii7 (v := _ + 1) K dX6_read_207 rfl (by decide) rfl ?_
      refine aw_goto (tgt := 142) K dX6_read_210 (by decide) ?_
      rw [nI_1]
      refine aw_sub [some (.ref (g.2.1 0)), some (.int _), some (.int _), some (.int _), some (.int _), some (.ref _), some (.int _), some (.int _), none, none] ⟨rfl, rfl, rfl, rfl, rfl, rfl, rfl, rfl, trivial⟩ ?_
      exact ih (i + 1) (by omega)
theorem nw4 : ∀ j, j < 4 → nwd (7 + j + 33) = true ∧ nwd (7 + j) = true := by decide
set_option maxHeartbeats 4000000 in
set_option maxRecDepth 100000 in
theorem tX6_read (l : Launch) (g : Geo) (sta : Nat → Nat) (h : HS) (a b f n : Int32) {N T Wn : Nat} (H : XW h N T Wn) (hz : ∀ j, j < 4 → SZ h (7 + j)) : CT (wX l g sta) 7 mX6_read [.ref (g.2.1 0), .int a, .int b, .int f, .int n] h (DP (readF h a b f n Wn)) := by
  refine CT.at [some (.ref (g.2.1 0)), some (.int a), some (.int b), some (.int f), some (.int n), none, none, none, none, none] 5 rfl (by decide) (Nat.le_of_ble_eq_true rfl) (fun k K => ?_)
  refine aw_il1 K dX6_read_0 ?_
  refine aw_callS_I K (tX6_isSheet l g sta _ _) rfl (by decide) fX6_isSheet lX6_284 dX6_read_1 rfl (Nat.le_of_ble_eq_true rfl) ?_
  refine aw_if_eq (tgt := 25) K dX6_read_4 (by decide) (fun b4 => ?_) (fun b4 => ?_)
  · refine aw_iconst (v := (-1)) K dX6_read_25 (by decide) ?_
    refine aw_iret K rfl dX6_read_26 ?_
    exact DPi (by rw [readF, if_neg (fun q => bI_0.mp b4 q.1)])
  · refine aw_il2 K dX6_read_7 ?_
    refine aw_callS_I K (tX6_isLane l g sta _ _) rfl (by decide) fX6_isLane lX6_287 dX6_read_8 rfl (Nat.le_of_ble_eq_true rfl) ?_
    refine aw_if_eq (tgt := 25) K dX6_read_11 (by decide) (fun b11 => ?_) (fun b11 => ?_)
    · refine aw_iconst (v := (-1)) K dX6_read_25 (by decide) ?_
      refine aw_iret K rfl dX6_read_26 ?_
      exact DPi (by rw [readF, if_neg (fun q => bI_0.mp b11 q.2.1)])
    · refine aw_il4 K dX6_read_14 ?_
      refine aw_iconst (v := 0) K dX6_read_16 (by decide) ?_
      refine aw_bipush (v := 12) K dX6_read_17 (by decide) ?_
      refine aw_callS_I K (tX6_within l g sta _ _ _ _) rfl (by decide) fX6_within lX6_76 dX6_read_19 rfl (Nat.le_of_ble_eq_true rfl) ?_
      refine aw_if_ne (tgt := 27) K dX6_read_22 (by decide) (fun b22 => ?_) (fun b22 => ?_)
      · obtain ⟨j, hj, rfl⟩ := sh_in (bI_1.mp b4)
        obtain ⟨hl1, hl2, hl3⟩ := sh_lay j hj
        refine aw_al0 K dX6_read_27 ?_
        refine aw_getR K gX6_46 dX6_read_28 rfl rfl ?_
        refine aw_il1 K dX6_read_31 ?_
        refine aw_aald K dX6_read_32 rfl (vp_in_nI hj (by decide)) (by rw [nI_clamp (by omega)]; exact hl3) ?_
        refine aw_as5 K dX6_read_33 (by decide) rfl ?_
        refine aw_al5 K dX6_read_35 ?_
        refine aw_il2 K dX6_read_37 ?_
        refine aw_il3 K dX6_read_38 ?_
        refine aw_il4 K dX6_read_39 ?_
        refine aw_callV_I K (tX2_wholeWords l g sta _ (7 + j) _ _ _ hl1) rfl (by decide) fX2_wholeWords lX6_300 dX6_read_41 hl1 clsX2 rfl (Nat.le_of_ble_eq_true rfl) ?_
        refine aw_is6 K dX6_read_44 (by decide) rfl ?_
        refine aw_iconst (v := 0) K dX6_read_46 (by decide) ?_
        refine aw_is7 K dX6_read_47 (by decide) rfl ?_
        obtain ⟨Wk, hw, hW, hf⟩ := ww_in (la := b) (f := f) (hz j hj) (bI_1.mp b22)
        have hf2 : Wk ≠ 0 → f = nI f.toNatClampNeg ∧ f.toNatClampNeg + 4 * Wk ≤ 48 := fun z => by
          obtain ⟨m, rfl, hm⟩ := hf z
          rw [nI_clamp (by omega)]
          exact ⟨rfl, hm⟩
        rw [readF, if_pos ⟨bI_1.mp b4, bI_1.mp b11, bI_1.mp b22⟩, nI_clamp (show j < 2 ^ 31 by omega), hw, nI_clamp (show Wk < 2 ^ 31 by omega)]
        refine lp1X6_read K h _ b f n (7 + j) f.toNatClampNeg Wk hl1 hl2 hW hf2 H _ (fun hall => ?_) Wk 0 (by omega) (fun j hj => absurd hj (Nat.not_lt_zero _))
        refine aw_iconst (v := 0) K dX6_read_139 (by decide) ?_
        refine aw_is7 K dX6_read_140 (by decide) rfl ?_
        exact lp2X6_read K h _ b f n (7 + j) f.toNatClampNeg Wk hl1 hl2 hW hf2 H (nw4 j hj).1 hall Wk 0 (by omega)
      · refine aw_iconst (v := (-1)) K dX6_read_25 (by decide) ?_
        refine aw_iret K rfl dX6_read_26 ?_
        exact DPi (by rw [readF, if_neg (fun q => bI_0.mp b22 q.2.2)])

