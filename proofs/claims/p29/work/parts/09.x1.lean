def DR (r : Int32) : Option Value → HS → Prop := fun o _ => o = some (.int r)
theorem not_lt32 {a b : Int32} (h : ¬ a < b) : b ≤ a := Int32.not_lt.mp h
theorem not_le32 {a b : Int32} (h : ¬ a ≤ b) : b < a := Int32.not_le.mp h
theorem lt_not_le32 {a b : Int32} (h : a < b) : ¬ b ≤ a := Int32.not_le.mpr h
theorem cw_max1 : Cond.static Lib.Math.max.name ∈ aw_tb := aw_in 394 (by decide +kernel) rfl
theorem cw_max2 : Cond.initialized "java/lang/Math" ∈ aw_tb := aw_in 89 (by decide +kernel) rfl
theorem cw_max3 : Cond.code Lib.Math.max.name Lib.Math.max.code 2 (some .int) ∈ aw_tb := aw_in 395 (by decide +kernel) rfl
theorem cw_min1 : Cond.static Lib.Math.min.name ∈ aw_tb := aw_in 608 (by decide +kernel) rfl
theorem cw_min2 : Cond.initialized "java/lang/Math" ∈ aw_tb := aw_in 89 (by decide +kernel) rfl
theorem cw_min3 : Cond.code Lib.Math.min.name Lib.Math.min.code 2 (some .int) ∈ aw_tb := aw_in 609 (by decide +kernel) rfl
set_option maxHeartbeats 4000000 in
set_option maxRecDepth 100000 in
theorem tX6_within (l : Launch) (g : Geo) (sta : Nat → Nat) (h : HS) (v a b : Int32) : CT (wX l g sta) 1 mX6_within [.int v, .int a, .int b] h (DI (bI (a ≤ v ∧ v ≤ b)) h) := by
  refine CT.at [some (.int v), some (.int a), some (.int b)] 0 rfl (by decide) (Nat.le_of_ble_eq_true rfl) (fun k K => ?_)
  refine aw_il0 K dX6_within_0 ?_
  refine aw_il1 K dX6_within_1 ?_
  refine aw_icmp_lt (tgt := 14) K dX6_within_2 (by decide) (fun b2 => ?_) (fun b2 => ?_)
  · refine aw_iconst (v := 0) K dX6_within_14 (by decide) ?_
    refine aw_zret K rfl dX6_within_15 (by first | rfl | exact bI_nar _) ?_
    first
      | exact ⟨congrArg some (congrArg Value.int (bI_f (fun q => lt_not_le32 b2 q.1)).symm), rfl⟩
      | exact ⟨congrArg some (congrArg Value.int (bI_f (fun q => lt_not_le32 b7 q.2)).symm), rfl⟩
      | exact ⟨congrArg some (congrArg Value.int (bI_t ⟨not_lt32 b2, not_lt32 b7⟩).symm), rfl⟩
  · refine aw_il0 K dX6_within_5 ?_
    refine aw_il2 K dX6_within_6 ?_
    refine aw_icmp_gt (tgt := 14) K dX6_within_7 (by decide) (fun b7 => ?_) (fun b7 => ?_)
    · refine aw_iconst (v := 0) K dX6_within_14 (by decide) ?_
      refine aw_zret K rfl dX6_within_15 (by first | rfl | exact bI_nar _) ?_
      first
        | exact ⟨congrArg some (congrArg Value.int (bI_f (fun q => lt_not_le32 b2 q.1)).symm), rfl⟩
        | exact ⟨congrArg some (congrArg Value.int (bI_f (fun q => lt_not_le32 b7 q.2)).symm), rfl⟩
        | exact ⟨congrArg some (congrArg Value.int (bI_t ⟨not_lt32 b2, not_lt32 b7⟩).symm), rfl⟩
    · refine aw_iconst (v := 1) K dX6_within_10 (by decide) ?_
      refine aw_goto (tgt := 15) K dX6_within_11 (by decide) ?_
      refine aw_zret K rfl dX6_within_15 (by first | rfl | exact bI_nar _) ?_
      first
        | exact ⟨congrArg some (congrArg Value.int (bI_f (fun q => lt_not_le32 b2 q.1)).symm), rfl⟩
        | exact ⟨congrArg some (congrArg Value.int (bI_f (fun q => lt_not_le32 b7 q.2)).symm), rfl⟩
        | exact ⟨congrArg some (congrArg Value.int (bI_t ⟨not_lt32 b2, not_lt32 b7⟩).symm), rfl⟩

set_option maxHeartbeats 4000000 in
set_option maxRecDepth 100000 in
theorem tX6_hasBit (l : Launch) (g : Geo) (sta : Nat → Nat) (h : HS) (v i : Int32) : CT (wX l g sta) 1 mX6_hasBit [.int v, .int i] h (DI (bI (¬ (v >>> (i &&& 31)) &&& 1 = 0)) h) := by
  refine CT.at [some (.int v), some (.int i)] 0 rfl (by decide) (Nat.le_of_ble_eq_true rfl) (fun k K => ?_)
  refine aw_il0 K dX6_hasBit_0 ?_
  refine aw_il1 K dX6_hasBit_1 ?_
  refine aw_ishr K dX6_hasBit_2 ?_
  refine aw_iconst (v := 1) K dX6_hasBit_3 (by decide) ?_
  refine aw_iand K dX6_hasBit_4 ?_
  refine aw_if_eq (tgt := 12) K dX6_hasBit_5 (by decide) (fun b5 => ?_) (fun b5 => ?_)
  · refine aw_iconst (v := 0) K dX6_hasBit_12 (by decide) ?_
    refine aw_zret K rfl dX6_hasBit_13 (by first | rfl | exact bI_nar _) ?_
    first
      | exact ⟨congrArg some (congrArg Value.int (bI_f (fun q => q b5)).symm), rfl⟩
      | exact ⟨congrArg some (congrArg Value.int (bI_t b5).symm), rfl⟩
  · refine aw_iconst (v := 1) K dX6_hasBit_8 (by decide) ?_
    refine aw_goto (tgt := 13) K dX6_hasBit_9 (by decide) ?_
    refine aw_zret K rfl dX6_hasBit_13 (by first | rfl | exact bI_nar _) ?_
    first
      | exact ⟨congrArg some (congrArg Value.int (bI_f (fun q => q b5)).symm), rfl⟩
      | exact ⟨congrArg some (congrArg Value.int (bI_t b5).symm), rfl⟩

set_option maxHeartbeats 4000000 in
set_option maxRecDepth 100000 in
theorem tX6_oneIf (l : Launch) (g : Geo) (sta : Nat → Nat) (h : HS) (v : Int32) : CT (wX l g sta) 1 mX6_oneIf [.int v] h (DI (bI (¬ v = 0)) h) := by
  refine CT.at [some (.int v)] 0 rfl (by decide) (Nat.le_of_ble_eq_true rfl) (fun k K => ?_)
  refine aw_il0 K dX6_oneIf_0 ?_
  refine aw_if_eq (tgt := 8) K dX6_oneIf_1 (by decide) (fun b1 => ?_) (fun b1 => ?_)
  · refine aw_iconst (v := 0) K dX6_oneIf_8 (by decide) ?_
    refine aw_iret K rfl dX6_oneIf_9 ?_
    first
      | exact ⟨congrArg some (congrArg Value.int (bI_f (fun q => q b1)).symm), rfl⟩
      | exact ⟨congrArg some (congrArg Value.int (bI_t b1).symm), rfl⟩
  · refine aw_iconst (v := 1) K dX6_oneIf_4 (by decide) ?_
    refine aw_goto (tgt := 9) K dX6_oneIf_5 (by decide) ?_
    refine aw_iret K rfl dX6_oneIf_9 ?_
    first
      | exact ⟨congrArg some (congrArg Value.int (bI_f (fun q => q b1)).symm), rfl⟩
      | exact ⟨congrArg some (congrArg Value.int (bI_t b1).symm), rfl⟩

set_option maxHeartbeats 4000000 in
set_option maxRecDepth 100000 in
theorem tX6_isName (l : Launch) (g : Geo) (sta : Nat → Nat) (h : HS) (a : Int32) : CT (wX l g sta) 2 mX6_isName [.ref (g.2.1 0), .int a] h (DI (bI (0 ≤ a ∧ a ≤ h.1 1 5 - 1)) h) := by
  refine CT.at [some (.ref (g.2.1 0)), some (.int a)] 0 rfl (by decide) (Nat.le_of_ble_eq_true rfl) (fun k K => ?_)
  refine aw_il1 K dX6_isName_0 ?_
  refine aw_iconst (v := 0) K dX6_isName_1 (by decide) ?_
  refine aw_al0 K dX6_isName_2 ?_
  refine aw_getR K gX6_12 dX6_isName_3 rfl rfl ?_
  refine aw_getI K gX6_161 dX6_isName_6 rfl rfl ?_
  refine aw_iconst (v := 1) K dX6_isName_9 (by decide) ?_
  refine aw_isub K dX6_isName_10 ?_
  refine aw_callS_I K (tX6_within l g sta _ _ _ _) rfl (by decide) fX6_within lX6_76 dX6_isName_11 rfl (Nat.le_of_ble_eq_true rfl) ?_
  refine aw_zret K rfl dX6_isName_14 (by first | rfl | exact bI_nar _) ?_
  exact ⟨rfl, rfl⟩

set_option maxHeartbeats 4000000 in
set_option maxRecDepth 100000 in
theorem tX6_isTie (l : Launch) (g : Geo) (sta : Nat → Nat) (h : HS) (a : Int32) : CT (wX l g sta) 2 mX6_isTie [.ref (g.2.1 0), .int a] h (DI (bI (0 ≤ a ∧ a ≤ h.1 2 5 - 1)) h) := by
  refine CT.at [some (.ref (g.2.1 0)), some (.int a)] 0 rfl (by decide) (Nat.le_of_ble_eq_true rfl) (fun k K => ?_)
  refine aw_il1 K dX6_isTie_0 ?_
  refine aw_iconst (v := 0) K dX6_isTie_1 (by decide) ?_
  refine aw_al0 K dX6_isTie_2 ?_
  refine aw_getR K gX6_19 dX6_isTie_3 rfl rfl ?_
  refine aw_getI K gX6_109 dX6_isTie_6 rfl rfl ?_
  refine aw_iconst (v := 1) K dX6_isTie_9 (by decide) ?_
  refine aw_isub K dX6_isTie_10 ?_
  refine aw_callS_I K (tX6_within l g sta _ _ _ _) rfl (by decide) fX6_within lX6_76 dX6_isTie_11 rfl (Nat.le_of_ble_eq_true rfl) ?_
  refine aw_zret K rfl dX6_isTie_14 (by first | rfl | exact bI_nar _) ?_
  exact ⟨rfl, rfl⟩

set_option maxHeartbeats 4000000 in
set_option maxRecDepth 100000 in
theorem tX6_isWord (l : Launch) (g : Geo) (sta : Nat → Nat) (h : HS) (a : Int32) : CT (wX l g sta) 2 mX6_isWord [.ref (g.2.1 0), .int a] h (DI (bI (0 ≤ a ∧ a ≤ h.1 3 7 - 1)) h) := by
  refine CT.at [some (.ref (g.2.1 0)), some (.int a)] 0 rfl (by decide) (Nat.le_of_ble_eq_true rfl) (fun k K => ?_)
  refine aw_il1 K dX6_isWord_0 ?_
  refine aw_iconst (v := 0) K dX6_isWord_1 (by decide) ?_
  refine aw_al0 K dX6_isWord_2 ?_
  refine aw_getR K gX6_26 dX6_isWord_3 rfl rfl ?_
  refine aw_getI K gX6_255 dX6_isWord_6 rfl rfl ?_
  refine aw_iconst (v := 1) K dX6_isWord_9 (by decide) ?_
  refine aw_isub K dX6_isWord_10 ?_
  refine aw_callS_I K (tX6_within l g sta _ _ _ _) rfl (by decide) fX6_within lX6_76 dX6_isWord_11 rfl (Nat.le_of_ble_eq_true rfl) ?_
  refine aw_zret K rfl dX6_isWord_14 (by first | rfl | exact bI_nar _) ?_
  exact ⟨rfl, rfl⟩

set_option maxHeartbeats 4000000 in
set_option maxRecDepth 100000 in
theorem tX6_isHeap (l : Launch) (g : Geo) (sta : Nat → Nat) (h : HS) (a : Int32) : CT (wX l g sta) 2 mX6_isHeap [.ref (g.2.1 0), .int a] h (DI (bI (0 ≤ a ∧ a ≤ 1 <<< (h.1 1 5 &&& 31) - 1)) h) := by
  refine CT.at [some (.ref (g.2.1 0)), some (.int a)] 0 rfl (by decide) (Nat.le_of_ble_eq_true rfl) (fun k K => ?_)
  refine aw_il1 K dX6_isHeap_0 ?_
  refine aw_iconst (v := 0) K dX6_isHeap_1 (by decide) ?_
  refine aw_iconst (v := 1) K dX6_isHeap_2 (by decide) ?_
  refine aw_al0 K dX6_isHeap_3 ?_
  refine aw_getR K gX6_12 dX6_isHeap_4 rfl rfl ?_
  refine aw_getI K gX6_161 dX6_isHeap_7 rfl rfl ?_
  refine aw_ishl K dX6_isHeap_10 ?_
  refine aw_iconst (v := 1) K dX6_isHeap_11 (by decide) ?_
  refine aw_isub K dX6_isHeap_12 ?_
  refine aw_callS_I K (tX6_within l g sta _ _ _ _) rfl (by decide) fX6_within lX6_76 dX6_isHeap_13 rfl (Nat.le_of_ble_eq_true rfl) ?_
  refine aw_zret K rfl dX6_isHeap_16 (by first | rfl | exact bI_nar _) ?_
  exact ⟨rfl, rfl⟩

set_option maxHeartbeats 4000000 in
set_option maxRecDepth 100000 in
theorem tX6_isSheet (l : Launch) (g : Geo) (sta : Nat → Nat) (h : HS) (a : Int32) : CT (wX l g sta) 2 mX6_isSheet [.int a] h (DI (bI (0 ≤ a ∧ a ≤ 3)) h) := by
  refine CT.at [some (.int a)] 0 rfl (by decide) (Nat.le_of_ble_eq_true rfl) (fun k K => ?_)
  refine aw_il0 K dX6_isSheet_0 ?_
  refine aw_iconst (v := 0) K dX6_isSheet_1 (by decide) ?_
  refine aw_iconst (v := 3) K dX6_isSheet_2 (by decide) ?_
  refine aw_callS_I K (tX6_within l g sta _ _ _ _) rfl (by decide) fX6_within lX6_76 dX6_isSheet_3 rfl (Nat.le_of_ble_eq_true rfl) ?_
  refine aw_zret K rfl dX6_isSheet_6 (by first | rfl | exact bI_nar _) ?_
  exact ⟨rfl, rfl⟩

set_option maxHeartbeats 4000000 in
set_option maxRecDepth 100000 in
theorem tX6_isLane (l : Launch) (g : Geo) (sta : Nat → Nat) (h : HS) (a : Int32) : CT (wX l g sta) 2 mX6_isLane [.int a] h (DI (bI (0 ≤ a ∧ a ≤ 2)) h) := by
  refine CT.at [some (.int a)] 0 rfl (by decide) (Nat.le_of_ble_eq_true rfl) (fun k K => ?_)
  refine aw_il0 K dX6_isLane_0 ?_
  refine aw_iconst (v := 0) K dX6_isLane_1 (by decide) ?_
  refine aw_iconst (v := 2) K dX6_isLane_2 (by decide) ?_
  refine aw_callS_I K (tX6_within l g sta _ _ _ _) rfl (by decide) fX6_within lX6_76 dX6_isLane_3 rfl (Nat.le_of_ble_eq_true rfl) ?_
  refine aw_zret K rfl dX6_isLane_6 (by first | rfl | exact bI_nar _) ?_
  exact ⟨rfl, rfl⟩

set_option maxHeartbeats 4000000 in
set_option maxRecDepth 100000 in
theorem tX6_arePair (l : Launch) (g : Geo) (sta : Nat → Nat) (h : HS) (a b : Int32) : CT (wX l g sta) 3 mX6_arePair [.ref (g.2.1 0), .int a, .int b] h (DI (bI ((0 ≤ a ∧ a ≤ h.1 1 5 - 1) ∧ (0 ≤ b ∧ b ≤ h.1 1 5 - 1) ∧ ¬ a = b)) h) := by
  refine CT.at [some (.ref (g.2.1 0)), some (.int a), some (.int b)] 0 rfl (by decide) (Nat.le_of_ble_eq_true rfl) (fun k K => ?_)
  refine aw_al0 K dX6_arePair_0 ?_
  refine aw_il1 K dX6_arePair_1 ?_
  refine aw_callV_I K (tX6_isName l g sta _ _) rfl (by decide) fX6_isName lX6_84 dX6_arePair_2 rfl clsX6 rfl (Nat.le_of_ble_eq_true rfl) ?_
  refine aw_if_eq (tgt := 25) K dX6_arePair_5 (by decide) (fun b5 => ?_) (fun b5 => ?_)
  · refine aw_iconst (v := 0) K dX6_arePair_25 (by decide) ?_
    refine aw_zret K rfl dX6_arePair_26 (by first | rfl | exact bI_nar _) ?_
    first
      | exact ⟨congrArg some (congrArg Value.int (bI_f (fun q => bI_0.mp b5 q.1)).symm), rfl⟩
      | exact ⟨congrArg some (congrArg Value.int (bI_f (fun q => bI_0.mp b13 q.2.1)).symm), rfl⟩
      | exact ⟨congrArg some (congrArg Value.int (bI_f (fun q => q.2.2 b18)).symm), rfl⟩
      | exact ⟨congrArg some (congrArg Value.int (bI_t ⟨bI_1.mp b5, bI_1.mp b13, b18⟩).symm), rfl⟩
  · refine aw_al0 K dX6_arePair_8 ?_
    refine aw_il2 K dX6_arePair_9 ?_
    refine aw_callV_I K (tX6_isName l g sta _ _) rfl (by decide) fX6_isName lX6_84 dX6_arePair_10 rfl clsX6 rfl (Nat.le_of_ble_eq_true rfl) ?_
    refine aw_if_eq (tgt := 25) K dX6_arePair_13 (by decide) (fun b13 => ?_) (fun b13 => ?_)
    · refine aw_iconst (v := 0) K dX6_arePair_25 (by decide) ?_
      refine aw_zret K rfl dX6_arePair_26 (by first | rfl | exact bI_nar _) ?_
      first
        | exact ⟨congrArg some (congrArg Value.int (bI_f (fun q => bI_0.mp b5 q.1)).symm), rfl⟩
        | exact ⟨congrArg some (congrArg Value.int (bI_f (fun q => bI_0.mp b13 q.2.1)).symm), rfl⟩
        | exact ⟨congrArg some (congrArg Value.int (bI_f (fun q => q.2.2 b18)).symm), rfl⟩
        | exact ⟨congrArg some (congrArg Value.int (bI_t ⟨bI_1.mp b5, bI_1.mp b13, b18⟩).symm), rfl⟩
    · refine aw_il1 K dX6_arePair_16 ?_
      refine aw_il2 K dX6_arePair_17 ?_
      refine aw_icmp_eq (tgt := 25) K dX6_arePair_18 (by decide) (fun b18 => ?_) (fun b18 => ?_)
      · refine aw_iconst (v := 0) K dX6_arePair_25 (by decide) ?_
        refine aw_zret K rfl dX6_arePair_26 (by first | rfl | exact bI_nar _) ?_
        first
          | exact ⟨congrArg some (congrArg Value.int (bI_f (fun q => bI_0.mp b5 q.1)).symm), rfl⟩
          | exact ⟨congrArg some (congrArg Value.int (bI_f (fun q => bI_0.mp b13 q.2.1)).symm), rfl⟩
          | exact ⟨congrArg some (congrArg Value.int (bI_f (fun q => q.2.2 b18)).symm), rfl⟩
          | exact ⟨congrArg some (congrArg Value.int (bI_t ⟨bI_1.mp b5, bI_1.mp b13, b18⟩).symm), rfl⟩
      · refine aw_iconst (v := 1) K dX6_arePair_21 (by decide) ?_
        refine aw_goto (tgt := 26) K dX6_arePair_22 (by decide) ?_
        refine aw_zret K rfl dX6_arePair_26 (by first | rfl | exact bI_nar _) ?_
        first
          | exact ⟨congrArg some (congrArg Value.int (bI_f (fun q => bI_0.mp b5 q.1)).symm), rfl⟩
          | exact ⟨congrArg some (congrArg Value.int (bI_f (fun q => bI_0.mp b13 q.2.1)).symm), rfl⟩
          | exact ⟨congrArg some (congrArg Value.int (bI_f (fun q => q.2.2 b18)).symm), rfl⟩
          | exact ⟨congrArg some (congrArg Value.int (bI_t ⟨bI_1.mp b5, bI_1.mp b13, b18⟩).symm), rfl⟩

set_option maxHeartbeats 4000000 in
set_option maxRecDepth 100000 in
theorem tX6_isOffer (l : Launch) (g : Geo) (sta : Nat → Nat) (h : HS) (a b : Int32) : CT (wX l g sta) 2 mX6_isOffer [.int a, .int b] h (DI (bI ((1 ≤ a ∧ a ≤ 999) ∧ (0 ≤ b ∧ b ≤ 99))) h) := by
  refine CT.at [some (.int a), some (.int b)] 0 rfl (by decide) (Nat.le_of_ble_eq_true rfl) (fun k K => ?_)
  refine aw_il0 K dX6_isOffer_0 ?_
  refine aw_iconst (v := 1) K dX6_isOffer_1 (by decide) ?_
  refine aw_sipush (v := 999) K dX6_isOffer_2 (by decide) ?_
  refine aw_callS_I K (tX6_within l g sta _ _ _ _) rfl (by decide) fX6_within lX6_76 dX6_isOffer_5 rfl (Nat.le_of_ble_eq_true rfl) ?_
  refine aw_if_eq (tgt := 25) K dX6_isOffer_8 (by decide) (fun b8 => ?_) (fun b8 => ?_)
  · refine aw_iconst (v := 0) K dX6_isOffer_25 (by decide) ?_
    refine aw_zret K rfl dX6_isOffer_26 (by first | rfl | exact bI_nar _) ?_
    first
      | exact ⟨congrArg some (congrArg Value.int (bI_f (fun q => bI_0.mp b8 q.1)).symm), rfl⟩
      | exact ⟨congrArg some (congrArg Value.int (bI_f (fun q => bI_0.mp b18 q.2)).symm), rfl⟩
      | exact ⟨congrArg some (congrArg Value.int (bI_t ⟨bI_1.mp b8, bI_1.mp b18⟩).symm), rfl⟩
  · refine aw_il1 K dX6_isOffer_11 ?_
    refine aw_iconst (v := 0) K dX6_isOffer_12 (by decide) ?_
    refine aw_bipush (v := 99) K dX6_isOffer_13 (by decide) ?_
    refine aw_callS_I K (tX6_within l g sta _ _ _ _) rfl (by decide) fX6_within lX6_76 dX6_isOffer_15 rfl (Nat.le_of_ble_eq_true rfl) ?_
    refine aw_if_eq (tgt := 25) K dX6_isOffer_18 (by decide) (fun b18 => ?_) (fun b18 => ?_)
    · refine aw_iconst (v := 0) K dX6_isOffer_25 (by decide) ?_
      refine aw_zret K rfl dX6_isOffer_26 (by first | rfl | exact bI_nar _) ?_
      first
        | exact ⟨congrArg some (congrArg Value.int (bI_f (fun q => bI_0.mp b8 q.1)).symm), rfl⟩
        | exact ⟨congrArg some (congrArg Value.int (bI_f (fun q => bI_0.mp b18 q.2)).symm), rfl⟩
        | exact ⟨congrArg some (congrArg Value.int (bI_t ⟨bI_1.mp b8, bI_1.mp b18⟩).symm), rfl⟩
    · refine aw_iconst (v := 1) K dX6_isOffer_21 (by decide) ?_
      refine aw_goto (tgt := 26) K dX6_isOffer_22 (by decide) ?_
      refine aw_zret K rfl dX6_isOffer_26 (by first | rfl | exact bI_nar _) ?_
      first
        | exact ⟨congrArg some (congrArg Value.int (bI_f (fun q => bI_0.mp b8 q.1)).symm), rfl⟩
        | exact ⟨congrArg some (congrArg Value.int (bI_f (fun q => bI_0.mp b18 q.2)).symm), rfl⟩
        | exact ⟨congrArg some (congrArg Value.int (bI_t ⟨bI_1.mp b8, bI_1.mp b18⟩).symm), rfl⟩

