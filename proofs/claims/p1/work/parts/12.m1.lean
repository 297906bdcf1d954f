theorem i64_le (a b : Int32) : a.toInt64 ≤ b.toInt64 ↔ a ≤ b := by
  rw [Int64.le_iff_toInt_le, Int32.le_iff_toInt_le, Int32.toInt_toInt64, Int32.toInt_toInt64]
set_option maxHeartbeats 4000000 in
set_option maxRecDepth 100000 in
theorem tX7_in (l : Launch) (g : Geo) (sta : Nat → Nat) (h : HS) (v a b : Int64) : CT (wM l g sta) 1 mX7_in [.long v, .long a, .long b] h (DI (bI (a ≤ v ∧ v ≤ b)) h) := by
  refine CT.at [some (.long v), none, some (.long a), none, some (.long b), none] 0 rfl (by decide) (Nat.le_of_ble_eq_true rfl) (fun k K => ?_)
  refine aw_ll0 K dX7_in_0 ?_
  refine aw_ll2 K dX7_in_1 ?_
  refine aw_lcmp K dX7_in_2 ?_
  refine aw_if_lt (tgt := 17) K dX7_in_3 (by decide) (fun b3 => ?_) (fun b3 => ?_)
  · refine aw_iconst (v := 0) K dX7_in_17 (by decide) ?_
    refine aw_zret K rfl dX7_in_18 (by first | rfl | exact bI_nar _) ?_
    first
      | exact ⟨congrArg some (congrArg Value.int (bI_f (fun q => Int64.not_le.mpr ((lg_cmp_lt _ _).mp b3) q.1)).symm), rfl⟩
      | exact ⟨congrArg some (congrArg Value.int (bI_f (fun q => Int64.not_le.mpr ((lg_cmp_gt _ _).mp b10) q.2)).symm), rfl⟩
      | exact ⟨congrArg some (congrArg Value.int (bI_t ⟨Int64.not_lt.mp (fun q => b3 ((lg_cmp_lt _ _).mpr q)), Int64.not_lt.mp (fun q => b10 ((lg_cmp_gt _ _).mpr q))⟩).symm), rfl⟩
  · refine aw_ll0 K dX7_in_6 ?_
    refine aw_ll4 K dX7_in_7 ?_
    refine aw_lcmp K dX7_in_9 ?_
    refine aw_if_gt (tgt := 17) K dX7_in_10 (by decide) (fun b10 => ?_) (fun b10 => ?_)
    · refine aw_iconst (v := 0) K dX7_in_17 (by decide) ?_
      refine aw_zret K rfl dX7_in_18 (by first | rfl | exact bI_nar _) ?_
      first
        | exact ⟨congrArg some (congrArg Value.int (bI_f (fun q => Int64.not_le.mpr ((lg_cmp_lt _ _).mp b3) q.1)).symm), rfl⟩
        | exact ⟨congrArg some (congrArg Value.int (bI_f (fun q => Int64.not_le.mpr ((lg_cmp_gt _ _).mp b10) q.2)).symm), rfl⟩
        | exact ⟨congrArg some (congrArg Value.int (bI_t ⟨Int64.not_lt.mp (fun q => b3 ((lg_cmp_lt _ _).mpr q)), Int64.not_lt.mp (fun q => b10 ((lg_cmp_gt _ _).mpr q))⟩).symm), rfl⟩
    · refine aw_iconst (v := 1) K dX7_in_13 (by decide) ?_
      refine aw_goto (tgt := 18) K dX7_in_14 (by decide) ?_
      refine aw_zret K rfl dX7_in_18 (by first | rfl | exact bI_nar _) ?_
      first
        | exact ⟨congrArg some (congrArg Value.int (bI_f (fun q => Int64.not_le.mpr ((lg_cmp_lt _ _).mp b3) q.1)).symm), rfl⟩
        | exact ⟨congrArg some (congrArg Value.int (bI_f (fun q => Int64.not_le.mpr ((lg_cmp_gt _ _).mp b10) q.2)).symm), rfl⟩
        | exact ⟨congrArg some (congrArg Value.int (bI_t ⟨Int64.not_lt.mp (fun q => b3 ((lg_cmp_lt _ _).mpr q)), Int64.not_lt.mp (fun q => b10 ((lg_cmp_gt _ _).mpr q))⟩).symm), rfl⟩

theorem in32 (l : Launch) (g : Geo) (sta : Nat → Nat) (h : HS) (a lo hi : Int32) {LO HI : Int64} (h1 : LO = lo.toInt64) (h2 : HI = hi.toInt64) : CT (wM l g sta) 1 mX7_in [.long a.toInt64, .long LO, .long HI] h (DI (bI (lo ≤ a ∧ a ≤ hi)) h) := by
  subst h1
  subst h2
  have := tX7_in l g sta h a.toInt64 lo.toInt64 hi.toInt64
  rwa [bI_congr (show (lo.toInt64 ≤ a.toInt64 ∧ a.toInt64 ≤ hi.toInt64) ↔ (lo ≤ a ∧ a ≤ hi) by rw [i64_le, i64_le])] at this
set_option maxHeartbeats 4000000 in
set_option maxRecDepth 100000 in
theorem tX7_isName (l : Launch) (g : Geo) (sta : Nat → Nat) (h : HS) (a : Int32) : CT (wM l g sta) 2 mX7_isName [.ref (g.2.1 0), .int a] h (DI (bI (0 ≤ a ∧ a ≤ h.1 0 0 - 1)) h) := by
  refine CT.at [some (.ref (g.2.1 0)), some (.int a)] 0 rfl (by decide) (Nat.le_of_ble_eq_true rfl) (fun k K => ?_)
  refine aw_il1 K dX7_isName_0 ?_
  refine aw_i2l K dX7_isName_1 ?_
  refine aw_lconst (v := 0) K dX7_isName_2 (by decide) ?_
  refine aw_al0 K dX7_isName_3 ?_
  refine aw_getI K gX7_98 dX7_isName_4 rfl rfl ?_
  refine aw_iconst (v := 1) K dX7_isName_7 (by decide) ?_
  refine aw_isub K dX7_isName_8 ?_
  refine aw_i2l K dX7_isName_9 ?_
  refine aw_callS_I K (in32 l g sta _ _ (0) (h.1 0 0 - 1) (by first | rfl | decide) (by first | rfl | decide)) rfl (by decide) fX7_in lX7_102 dX7_isName_10 rfl (Nat.le_of_ble_eq_true rfl) ?_
  refine aw_zret K rfl dX7_isName_13 (by first | rfl | exact bI_nar _) ?_
  exact ⟨rfl, rfl⟩

set_option maxHeartbeats 4000000 in
set_option maxRecDepth 100000 in
theorem tX7_isTie (l : Launch) (g : Geo) (sta : Nat → Nat) (h : HS) (a : Int32) : CT (wM l g sta) 2 mX7_isTie [.ref (g.2.1 0), .int a] h (DI (bI (0 ≤ a ∧ a ≤ h.1 0 6 - 1)) h) := by
  refine CT.at [some (.ref (g.2.1 0)), some (.int a)] 0 rfl (by decide) (Nat.le_of_ble_eq_true rfl) (fun k K => ?_)
  refine aw_il1 K dX7_isTie_0 ?_
  refine aw_i2l K dX7_isTie_1 ?_
  refine aw_lconst (v := 0) K dX7_isTie_2 (by decide) ?_
  refine aw_al0 K dX7_isTie_3 ?_
  refine aw_getI K gX7_121 dX7_isTie_4 rfl rfl ?_
  refine aw_iconst (v := 1) K dX7_isTie_7 (by decide) ?_
  refine aw_isub K dX7_isTie_8 ?_
  refine aw_i2l K dX7_isTie_9 ?_
  refine aw_callS_I K (in32 l g sta _ _ (0) (h.1 0 6 - 1) (by first | rfl | decide) (by first | rfl | decide)) rfl (by decide) fX7_in lX7_102 dX7_isTie_10 rfl (Nat.le_of_ble_eq_true rfl) ?_
  refine aw_zret K rfl dX7_isTie_13 (by first | rfl | exact bI_nar _) ?_
  exact ⟨rfl, rfl⟩

set_option maxHeartbeats 4000000 in
set_option maxRecDepth 100000 in
theorem tX7_areNames (l : Launch) (g : Geo) (sta : Nat → Nat) (h : HS) (a : Int32) : CT (wM l g sta) 2 mX7_areNames [.ref (g.2.1 0), .int a] h (DI (bI (0 ≤ a ∧ a ≤ 1 <<< (h.1 0 0 &&& 31) - 1)) h) := by
  refine CT.at [some (.ref (g.2.1 0)), some (.int a)] 0 rfl (by decide) (Nat.le_of_ble_eq_true rfl) (fun k K => ?_)
  refine aw_il1 K dX7_areNames_0 ?_
  refine aw_i2l K dX7_areNames_1 ?_
  refine aw_lconst (v := 0) K dX7_areNames_2 (by decide) ?_
  refine aw_iconst (v := 1) K dX7_areNames_3 (by decide) ?_
  refine aw_al0 K dX7_areNames_4 ?_
  refine aw_getI K gX7_98 dX7_areNames_5 rfl rfl ?_
  refine aw_ishl K dX7_areNames_8 ?_
  refine aw_iconst (v := 1) K dX7_areNames_9 (by decide) ?_
  refine aw_isub K dX7_areNames_10 ?_
  refine aw_i2l K dX7_areNames_11 ?_
  refine aw_callS_I K (in32 l g sta _ _ (0) (1 <<< (h.1 0 0 &&& 31) - 1) (by first | rfl | decide) (by first | rfl | decide)) rfl (by decide) fX7_in lX7_102 dX7_areNames_12 rfl (Nat.le_of_ble_eq_true rfl) ?_
  refine aw_zret K rfl dX7_areNames_15 (by first | rfl | exact bI_nar _) ?_
  exact ⟨rfl, rfl⟩

set_option maxHeartbeats 4000000 in
set_option maxRecDepth 100000 in
theorem tX7_isSheet (l : Launch) (g : Geo) (sta : Nat → Nat) (h : HS) (a b : Int32) : CT (wM l g sta) 2 mX7_isSheet [.int a, .int b] h (DI (bI ((0 ≤ a ∧ a ≤ 3) ∧ (0 ≤ b ∧ b ≤ 2))) h) := by
  refine CT.at [some (.int a), some (.int b)] 0 rfl (by decide) (Nat.le_of_ble_eq_true rfl) (fun k K => ?_)
  refine aw_il0 K dX7_isSheet_0 ?_
  refine aw_i2l K dX7_isSheet_1 ?_
  refine aw_lconst (v := 0) K dX7_isSheet_2 (by decide) ?_
  refine aw_ldc2 K qX7_119 dX7_isSheet_3 ?_
  refine aw_callS_I K (in32 l g sta _ _ (0) (3) (by first | rfl | decide) (by first | rfl | decide)) rfl (by decide) fX7_in lX7_102 dX7_isSheet_6 rfl (Nat.le_of_ble_eq_true rfl) ?_
  refine aw_if_eq (tgt := 28) K dX7_isSheet_9 (by decide) (fun b9 => ?_) (fun b9 => ?_)
  · refine aw_iconst (v := 0) K dX7_isSheet_28 (by decide) ?_
    refine aw_zret K rfl dX7_isSheet_29 (by first | rfl | exact bI_nar _) ?_
    first
      | exact ⟨congrArg some (congrArg Value.int (bI_f (fun q => bI_0.mp b9 q.1)).symm), rfl⟩
      | exact ⟨congrArg some (congrArg Value.int (bI_f (fun q => bI_0.mp b21 q.2)).symm), rfl⟩
      | exact ⟨congrArg some (congrArg Value.int (bI_t ⟨bI_1.mp b9, bI_1.mp b21⟩).symm), rfl⟩
  · refine aw_il1 K dX7_isSheet_12 ?_
    refine aw_i2l K dX7_isSheet_13 ?_
    refine aw_lconst (v := 0) K dX7_isSheet_14 (by decide) ?_
    refine aw_ldc2 K qX7_226 dX7_isSheet_15 ?_
    refine aw_callS_I K (in32 l g sta _ _ (0) (2) (by first | rfl | decide) (by first | rfl | decide)) rfl (by decide) fX7_in lX7_102 dX7_isSheet_18 rfl (Nat.le_of_ble_eq_true rfl) ?_
    refine aw_if_eq (tgt := 28) K dX7_isSheet_21 (by decide) (fun b21 => ?_) (fun b21 => ?_)
    · refine aw_iconst (v := 0) K dX7_isSheet_28 (by decide) ?_
      refine aw_zret K rfl dX7_isSheet_29 (by first | rfl | exact bI_nar _) ?_
      first
        | exact ⟨congrArg some (congrArg Value.int (bI_f (fun q => bI_0.mp b9 q.1)).symm), rfl⟩
        | exact ⟨congrArg some (congrArg Value.int (bI_f (fun q => bI_0.mp b21 q.2)).symm), rfl⟩
        | exact ⟨congrArg some (congrArg Value.int (bI_t ⟨bI_1.mp b9, bI_1.mp b21⟩).symm), rfl⟩
    · refine aw_iconst (v := 1) K dX7_isSheet_24 (by decide) ?_
      refine aw_goto (tgt := 29) K dX7_isSheet_25 (by decide) ?_
      refine aw_zret K rfl dX7_isSheet_29 (by first | rfl | exact bI_nar _) ?_
      first
        | exact ⟨congrArg some (congrArg Value.int (bI_f (fun q => bI_0.mp b9 q.1)).symm), rfl⟩
        | exact ⟨congrArg some (congrArg Value.int (bI_f (fun q => bI_0.mp b21 q.2)).symm), rfl⟩
        | exact ⟨congrArg some (congrArg Value.int (bI_t ⟨bI_1.mp b9, bI_1.mp b21⟩).symm), rfl⟩

set_option maxHeartbeats 4000000 in
set_option maxRecDepth 100000 in
theorem tX7_isWord (l : Launch) (g : Geo) (sta : Nat → Nat) (h : HS) (a b c e : Int32) : CT (wM l g sta) 3 mX7_isWord [.ref (g.2.1 0), .int a, .int b, .int c, .int e] h (DI (bI ((0 ≤ a ∧ a ≤ h.1 0 0 - 1) ∧ (0 ≤ b ∧ b ≤ h.1 0 0 - 1) ∧ ¬ a = b ∧ (0 ≤ c ∧ c ≤ 99) ∧ (0 ≤ e ∧ e ≤ 10))) h) := by
  refine CT.at [some (.ref (g.2.1 0)), some (.int a), some (.int b), some (.int c), some (.int e)] 0 rfl (by decide) (Nat.le_of_ble_eq_true rfl) (fun k K => ?_)
  refine aw_al0 K dX7_isWord_0 ?_
  refine aw_il1 K dX7_isWord_1 ?_
  refine aw_callV_I K (tX7_isName l g sta _ _) rfl (by decide) fX7_isName lX7_111 dX7_isWord_2 rfl clsX7 rfl (Nat.le_of_ble_eq_true rfl) ?_
  refine aw_if_eq (tgt := 50) K dX7_isWord_5 (by decide) (fun b5 => ?_) (fun b5 => ?_)
  · refine aw_iconst (v := 0) K dX7_isWord_50 (by decide) ?_
    refine aw_zret K rfl dX7_isWord_51 (by first | rfl | exact bI_nar _) ?_
    first
      | exact ⟨congrArg some (congrArg Value.int (bI_f (fun q => bI_0.mp b43 q.2.2.2.2)).symm), rfl⟩
      | exact ⟨congrArg some (congrArg Value.int (bI_f (fun q => bI_0.mp b30 q.2.2.2.1)).symm), rfl⟩
      | exact ⟨congrArg some (congrArg Value.int (bI_f (fun q => absurd b18 q.2.2.1)).symm), rfl⟩
      | exact ⟨congrArg some (congrArg Value.int (bI_f (fun q => bI_0.mp b13 q.2.1)).symm), rfl⟩
      | exact ⟨congrArg some (congrArg Value.int (bI_f (fun q => bI_0.mp b5 q.1)).symm), rfl⟩
      | exact ⟨congrArg some (congrArg Value.int (bI_t ⟨bI_1.mp b5, bI_1.mp b13, b18, bI_1.mp b30, bI_1.mp b43⟩).symm), rfl⟩
  · refine aw_al0 K dX7_isWord_8 ?_
    refine aw_il2 K dX7_isWord_9 ?_
    refine aw_callV_I K (tX7_isName l g sta _ _) rfl (by decide) fX7_isName lX7_111 dX7_isWord_10 rfl clsX7 rfl (Nat.le_of_ble_eq_true rfl) ?_
    refine aw_if_eq (tgt := 50) K dX7_isWord_13 (by decide) (fun b13 => ?_) (fun b13 => ?_)
    · refine aw_iconst (v := 0) K dX7_isWord_50 (by decide) ?_
      refine aw_zret K rfl dX7_isWord_51 (by first | rfl | exact bI_nar _) ?_
      first
        | exact ⟨congrArg some (congrArg Value.int (bI_f (fun q => bI_0.mp b43 q.2.2.2.2)).symm), rfl⟩
        | exact ⟨congrArg some (congrArg Value.int (bI_f (fun q => bI_0.mp b30 q.2.2.2.1)).symm), rfl⟩
        | exact ⟨congrArg some (congrArg Value.int (bI_f (fun q => absurd b18 q.2.2.1)).symm), rfl⟩
        | exact ⟨congrArg some (congrArg Value.int (bI_f (fun q => bI_0.mp b13 q.2.1)).symm), rfl⟩
        | exact ⟨congrArg some (congrArg Value.int (bI_f (fun q => bI_0.mp b5 q.1)).symm), rfl⟩
        | exact ⟨congrArg some (congrArg Value.int (bI_t ⟨bI_1.mp b5, bI_1.mp b13, b18, bI_1.mp b30, bI_1.mp b43⟩).symm), rfl⟩
    · refine aw_il1 K dX7_isWord_16 ?_
      refine aw_il2 K dX7_isWord_17 ?_
      refine aw_icmp_eq (tgt := 50) K dX7_isWord_18 (by decide) (fun b18 => ?_) (fun b18 => ?_)
      · refine aw_iconst (v := 0) K dX7_isWord_50 (by decide) ?_
        refine aw_zret K rfl dX7_isWord_51 (by first | rfl | exact bI_nar _) ?_
        first
          | exact ⟨congrArg some (congrArg Value.int (bI_f (fun q => bI_0.mp b43 q.2.2.2.2)).symm), rfl⟩
          | exact ⟨congrArg some (congrArg Value.int (bI_f (fun q => bI_0.mp b30 q.2.2.2.1)).symm), rfl⟩
          | exact ⟨congrArg some (congrArg Value.int (bI_f (fun q => absurd b18 q.2.2.1)).symm), rfl⟩
          | exact ⟨congrArg some (congrArg Value.int (bI_f (fun q => bI_0.mp b13 q.2.1)).symm), rfl⟩
          | exact ⟨congrArg some (congrArg Value.int (bI_f (fun q => bI_0.mp b5 q.1)).symm), rfl⟩
          | exact ⟨congrArg some (congrArg Value.int (bI_t ⟨bI_1.mp b5, bI_1.mp b13, b18, bI_1.mp b30, bI_1.mp b43⟩).symm), rfl⟩
      · refine aw_il3 K dX7_isWord_21 ?_
        refine aw_i2l K dX7_isWord_22 ?_
        refine aw_lconst (v := 0) K dX7_isWord_23 (by decide) ?_
        refine aw_ldc2 K qX7_231 dX7_isWord_24 ?_
        refine aw_callS_I K (in32 l g sta _ _ (0) (99) (by first | rfl | decide) (by first | rfl | decide)) rfl (by decide) fX7_in lX7_102 dX7_isWord_27 rfl (Nat.le_of_ble_eq_true rfl) ?_
        refine aw_if_eq (tgt := 50) K dX7_isWord_30 (by decide) (fun b30 => ?_) (fun b30 => ?_)
        · refine aw_iconst (v := 0) K dX7_isWord_50 (by decide) ?_
          refine aw_zret K rfl dX7_isWord_51 (by first | rfl | exact bI_nar _) ?_
          first
            | exact ⟨congrArg some (congrArg Value.int (bI_f (fun q => bI_0.mp b43 q.2.2.2.2)).symm), rfl⟩
            | exact ⟨congrArg some (congrArg Value.int (bI_f (fun q => bI_0.mp b30 q.2.2.2.1)).symm), rfl⟩
            | exact ⟨congrArg some (congrArg Value.int (bI_f (fun q => absurd b18 q.2.2.1)).symm), rfl⟩
            | exact ⟨congrArg some (congrArg Value.int (bI_f (fun q => bI_0.mp b13 q.2.1)).symm), rfl⟩
            | exact ⟨congrArg some (congrArg Value.int (bI_f (fun q => bI_0.mp b5 q.1)).symm), rfl⟩
            | exact ⟨congrArg some (congrArg Value.int (bI_t ⟨bI_1.mp b5, bI_1.mp b13, b18, bI_1.mp b30, bI_1.mp b43⟩).symm), rfl⟩
        · refine aw_il4 K dX7_isWord_33 ?_
          refine aw_i2l K dX7_isWord_35 ?_
          refine aw_lconst (v := 0) K dX7_isWord_36 (by decide) ?_
          refine aw_ldc2 K qX7_233 dX7_isWord_37 ?_
          refine aw_callS_I K (in32 l g sta _ _ (0) (10) (by first | rfl | decide) (by first | rfl | decide)) rfl (by decide) fX7_in lX7_102 dX7_isWord_40 rfl (Nat.le_of_ble_eq_true rfl) ?_
          refine aw_if_eq (tgt := 50) K dX7_isWord_43 (by decide) (fun b43 => ?_) (fun b43 => ?_)
          · refine aw_iconst (v := 0) K dX7_isWord_50 (by decide) ?_
            refine aw_zret K rfl dX7_isWord_51 (by first | rfl | exact bI_nar _) ?_
            first
              | exact ⟨congrArg some (congrArg Value.int (bI_f (fun q => bI_0.mp b43 q.2.2.2.2)).symm), rfl⟩
              | exact ⟨congrArg some (congrArg Value.int (bI_f (fun q => bI_0.mp b30 q.2.2.2.1)).symm), rfl⟩
              | exact ⟨congrArg some (congrArg Value.int (bI_f (fun q => absurd b18 q.2.2.1)).symm), rfl⟩
              | exact ⟨congrArg some (congrArg Value.int (bI_f (fun q => bI_0.mp b13 q.2.1)).symm), rfl⟩
              | exact ⟨congrArg some (congrArg Value.int (bI_f (fun q => bI_0.mp b5 q.1)).symm), rfl⟩
              | exact ⟨congrArg some (congrArg Value.int (bI_t ⟨bI_1.mp b5, bI_1.mp b13, b18, bI_1.mp b30, bI_1.mp b43⟩).symm), rfl⟩
          · refine aw_iconst (v := 1) K dX7_isWord_46 (by decide) ?_
            refine aw_goto (tgt := 51) K dX7_isWord_47 (by decide) ?_
            refine aw_zret K rfl dX7_isWord_51 (by first | rfl | exact bI_nar _) ?_
            first
              | exact ⟨congrArg some (congrArg Value.int (bI_f (fun q => bI_0.mp b43 q.2.2.2.2)).symm), rfl⟩
              | exact ⟨congrArg some (congrArg Value.int (bI_f (fun q => bI_0.mp b30 q.2.2.2.1)).symm), rfl⟩
              | exact ⟨congrArg some (congrArg Value.int (bI_f (fun q => absurd b18 q.2.2.1)).symm), rfl⟩
              | exact ⟨congrArg some (congrArg Value.int (bI_f (fun q => bI_0.mp b13 q.2.1)).symm), rfl⟩
              | exact ⟨congrArg some (congrArg Value.int (bI_f (fun q => bI_0.mp b5 q.1)).symm), rfl⟩
              | exact ⟨congrArg some (congrArg Value.int (bI_t ⟨bI_1.mp b5, bI_1.mp b13, b18, bI_1.mp b30, bI_1.mp b43⟩).symm), rfl⟩

/-- a fresh object of the reference, as far as a first call looks -/
def MF0 (h : HS) : Prop := h.1 0 0 = 0 ∧ h.1 0 6 = 0 ∧ h.1 0 27 = 0 ∧ h.1 0 12 = 0 ∧ h.1 0 43 = 0 ∧ h.1 0 17 = 0 ∧ h.1 0 22 = 0 ∧ (∀ j, j < 10 → h.1 11 j = aw_r0 j) ∧ (∀ j, j < 4 → h.1 25 j = -4)
theorem mf_nm {h : HS} (F : MF0 h) (a : Int32) : bI (0 ≤ a ∧ a ≤ h.1 0 0 - 1) = 0 := by rw [F.1]; exact bI_f (no_in a)
theorem mf_ti {h : HS} (F : MF0 h) (a : Int32) : bI (0 ≤ a ∧ a ≤ h.1 0 6 - 1) = 0 := by rw [F.2.1]; exact bI_f (no_in a)
theorem mf_wo {h : HS} (F : MF0 h) (a : Int32) : bI (0 ≤ a ∧ a ≤ h.1 0 27 - 1) = 0 := by rw [F.2.2.1]; exact bI_f (no_in a)
theorem mf_hp {h : HS} (F : MF0 h) (a : Int32) : bI (0 ≤ a ∧ a ≤ 1 <<< (h.1 0 0 &&& 31) - 1) = bI (a = 0) := by
  rw [F.1, show (1 : Int32) <<< ((0 : Int32) &&& 31) - 1 = 0 by decide]
  exact bI_congr (in_00 a)
set_option maxHeartbeats 4000000 in
set_option maxRecDepth 100000 in
theorem uX7_seed (l : Launch) (g : Geo) (sta : Nat → Nat) (h : HS) (a b : Int32) (F : MF0 h) : CT (wM l g sta) 6 mX7_seed [.ref (g.2.1 0), .int a, .int b] h (DR (-1)) := by
  refine CT.at [some (.ref (g.2.1 0)), some (.int a), some (.int b), none] 1 rfl (by decide) (Nat.le_of_ble_eq_true rfl) (fun k K => ?_)
  refine aw_al0 K dX7_seed_0 ?_
  refine aw_il1 K dX7_seed_1 ?_
  refine aw_callV_I K (tX7_isName l g sta _ _) rfl (by decide) fX7_isName lX7_111 dX7_seed_2 rfl clsX7 rfl (Nat.le_of_ble_eq_true rfl) ?_
  refine aw_if_ne (tgt := 10) K dX7_seed_5 (by decide) (fun b5 => ?_) (fun b5 => ?_)
  · exact absurd (mf_nm F a) b5
  · refine aw_iconst (v := (-1)) K dX7_seed_8 (by decide) ?_
    refine aw_iret K rfl dX7_seed_9 ?_
    exact rfl

set_option maxHeartbeats 4000000 in
set_option maxRecDepth 100000 in
theorem uX7_pledge (l : Launch) (g : Geo) (sta : Nat → Nat) (h : HS) (a b : Int32) (F : MF0 h) : CT (wM l g sta) 6 mX7_pledge [.ref (g.2.1 0), .int a, .int b] h (DR (-1)) := by
  refine CT.at [some (.ref (g.2.1 0)), some (.int a), some (.int b)] 0 rfl (by decide) (Nat.le_of_ble_eq_true rfl) (fun k K => ?_)
  refine aw_al0 K dX7_pledge_0 ?_
  refine aw_il1 K dX7_pledge_1 ?_
  refine aw_callV_I K (tX7_isName l g sta _ _) rfl (by decide) fX7_isName lX7_111 dX7_pledge_2 rfl clsX7 rfl (Nat.le_of_ble_eq_true rfl) ?_
  refine aw_if_eq (tgt := 20) K dX7_pledge_5 (by decide) (fun b5 => ?_) (fun b5 => ?_)
  · refine aw_iconst (v := (-1)) K dX7_pledge_20 (by decide) ?_
    refine aw_iret K rfl dX7_pledge_21 ?_
    exact rfl
  · exact absurd (mf_nm F a) b5

set_option maxHeartbeats 4000000 in
set_option maxRecDepth 100000 in
theorem uX7_tie (l : Launch) (g : Geo) (sta : Nat → Nat) (h : HS) (a b c e : Int32) (F : MF0 h) : CT (wM l g sta) 6 mX7_tie [.ref (g.2.1 0), .int a, .int b, .int c, .int e] h (DR (-1)) := by
  refine CT.at [some (.ref (g.2.1 0)), some (.int a), some (.int b), some (.int c), some (.int e)] 0 rfl (by decide) (Nat.le_of_ble_eq_true rfl) (fun k K => ?_)
  refine aw_al0 K dX7_tie_0 ?_
  refine aw_il1 K dX7_tie_1 ?_
  refine aw_callV_I K (tX7_isName l g sta _ _) rfl (by decide) fX7_isName lX7_111 dX7_tie_2 rfl clsX7 rfl (Nat.le_of_ble_eq_true rfl) ?_
  refine aw_if_eq (tgt := 46) K dX7_tie_5 (by decide) (fun b5 => ?_) (fun b5 => ?_)
  · refine aw_iconst (v := (-1)) K dX7_tie_46 (by decide) ?_
    refine aw_iret K rfl dX7_tie_47 ?_
    exact rfl
  · exact absurd (mf_nm F a) b5

set_option maxHeartbeats 4000000 in
set_option maxRecDepth 100000 in
theorem uX7_tieOf (l : Launch) (g : Geo) (sta : Nat → Nat) (h : HS) (a b : Int32) (F : MF0 h) : CT (wM l g sta) 6 mX7_tieOf [.ref (g.2.1 0), .int a, .int b] h (DR (-1)) := by
  refine CT.at [some (.ref (g.2.1 0)), some (.int a), some (.int b)] 0 rfl (by decide) (Nat.le_of_ble_eq_true rfl) (fun k K => ?_)
  refine aw_al0 K dX7_tieOf_0 ?_
  refine aw_il1 K dX7_tieOf_1 ?_
  refine aw_callV_I K (tX7_isTie l g sta _ _) rfl (by decide) fX7_isTie lX7_131 dX7_tieOf_2 rfl clsX7 rfl (Nat.le_of_ble_eq_true rfl) ?_
  refine aw_if_eq (tgt := 20) K dX7_tieOf_5 (by decide) (fun b5 => ?_) (fun b5 => ?_)
  · refine aw_iconst (v := (-1)) K dX7_tieOf_20 (by decide) ?_
    refine aw_iret K rfl dX7_tieOf_21 ?_
    exact rfl
  · exact absurd (mf_ti F a) b5

set_option maxHeartbeats 4000000 in
set_option maxRecDepth 100000 in
theorem uX7_renew (l : Launch) (g : Geo) (sta : Nat → Nat) (h : HS) (a : Int32) (F : MF0 h) : CT (wM l g sta) 6 mX7_renew [.ref (g.2.1 0), .int a] h (DR (-1)) := by
  refine CT.at [some (.ref (g.2.1 0)), some (.int a), none] 1 rfl (by decide) (Nat.le_of_ble_eq_true rfl) (fun k K => ?_)
  refine aw_al0 K dX7_renew_0 ?_
  refine aw_il1 K dX7_renew_1 ?_
  refine aw_callV_I K (tX7_isTie l g sta _ _) rfl (by decide) fX7_isTie lX7_131 dX7_renew_2 rfl clsX7 rfl (Nat.le_of_ble_eq_true rfl) ?_
  refine aw_if_ne (tgt := 10) K dX7_renew_5 (by decide) (fun b5 => ?_) (fun b5 => ?_)
  · exact absurd (mf_ti F a) b5
  · refine aw_iconst (v := (-1)) K dX7_renew_8 (by decide) ?_
    refine aw_iret K rfl dX7_renew_9 ?_
    exact rfl

set_option maxHeartbeats 4000000 in
set_option maxRecDepth 100000 in
theorem uX7_of (l : Launch) (g : Geo) (sta : Nat → Nat) (h : HS) (a b : Int32) (F : MF0 h) : CT (wM l g sta) 6 mX7_of [.ref (g.2.1 0), .int a, .int b] h (DR (-1)) := by
  refine CT.at [some (.ref (g.2.1 0)), some (.int a), some (.int b), none, none] 2 rfl (by decide) (Nat.le_of_ble_eq_true rfl) (fun k K => ?_)
  refine aw_al0 K dX7_of_0 ?_
  refine aw_il1 K dX7_of_1 ?_
  refine aw_callV_I K (tX7_isName l g sta _ _) rfl (by decide) fX7_isName lX7_111 dX7_of_2 rfl clsX7 rfl (Nat.le_of_ble_eq_true rfl) ?_
  refine aw_if_eq (tgt := 20) K dX7_of_5 (by decide) (fun b5 => ?_) (fun b5 => ?_)
  · refine aw_iconst (v := (-1)) K dX7_of_20 (by decide) ?_
    refine aw_iret K rfl dX7_of_21 ?_
    exact rfl
  · exact absurd (mf_nm F a) b5

set_option maxHeartbeats 4000000 in
set_option maxRecDepth 100000 in
theorem uX7_made (l : Launch) (g : Geo) (sta : Nat → Nat) (h : HS) (a : Int32) (F : MF0 h) : CT (wM l g sta) 6 mX7_made [.ref (g.2.1 0), .int a] h (DR (-1)) := by
  refine CT.at [some (.ref (g.2.1 0)), some (.int a), none, none] 2 rfl (by decide) (Nat.le_of_ble_eq_true rfl) (fun k K => ?_)
  refine aw_al0 K dX7_made_0 ?_
  refine aw_il1 K dX7_made_1 ?_
  refine aw_callV_I K (tX7_isName l g sta _ _) rfl (by decide) fX7_isName lX7_111 dX7_made_2 rfl clsX7 rfl (Nat.le_of_ble_eq_true rfl) ?_
  refine aw_if_ne (tgt := 10) K dX7_made_5 (by decide) (fun b5 => ?_) (fun b5 => ?_)
  · exact absurd (mf_nm F a) b5
  · refine aw_iconst (v := (-1)) K dX7_made_8 (by decide) ?_
    refine aw_iret K rfl dX7_made_9 ?_
    exact rfl

set_option maxHeartbeats 4000000 in
set_option maxRecDepth 100000 in
theorem uX7_trust (l : Launch) (g : Geo) (sta : Nat → Nat) (h : HS) (a : Int32) (F : MF0 h) : CT (wM l g sta) 6 mX7_trust [.ref (g.2.1 0), .int a] h (DR (-1)) := by
  refine CT.at [some (.ref (g.2.1 0)), some (.int a)] 0 rfl (by decide) (Nat.le_of_ble_eq_true rfl) (fun k K => ?_)
  refine aw_al0 K dX7_trust_0 ?_
  refine aw_il1 K dX7_trust_1 ?_
  refine aw_callV_I K (tX7_isName l g sta _ _) rfl (by decide) fX7_isName lX7_111 dX7_trust_2 rfl clsX7 rfl (Nat.le_of_ble_eq_true rfl) ?_
  refine aw_if_eq (tgt := 18) K dX7_trust_5 (by decide) (fun b5 => ?_) (fun b5 => ?_)
  · refine aw_iconst (v := (-1)) K dX7_trust_18 (by decide) ?_
    refine aw_iret K rfl dX7_trust_19 ?_
    exact rfl
  · exact absurd (mf_nm F a) b5

set_option maxHeartbeats 4000000 in
set_option maxRecDepth 100000 in
theorem uX7_cut (l : Launch) (g : Geo) (sta : Nat → Nat) (h : HS) (a b : Int32) (F : MF0 h) : CT (wM l g sta) 6 mX7_cut [.ref (g.2.1 0), .int a, .int b] h (DR (-1)) := by
  refine CT.at [some (.ref (g.2.1 0)), some (.int a), some (.int b), none, none, none, none, none] 5 rfl (by decide) (Nat.le_of_ble_eq_true rfl) (fun k K => ?_)
  refine aw_al0 K dX7_cut_0 ?_
  refine aw_il1 K dX7_cut_1 ?_
  refine aw_callV_I K (tX7_areNames l g sta _ _) rfl (by decide) fX7_areNames lX7_223 dX7_cut_2 rfl clsX7 rfl (Nat.le_of_ble_eq_true rfl) ?_
  refine aw_if_eq (tgt := 24) K dX7_cut_5 (by decide) (fun b5 => ?_) (fun b5 => ?_)
  · refine aw_iconst (v := (-1)) K dX7_cut_24 (by decide) ?_
    refine aw_iret K rfl dX7_cut_25 ?_
    exact rfl
  · refine aw_il1 K dX7_cut_8 ?_
    refine aw_if_eq (tgt := 24) K dX7_cut_9 (by decide) (fun b9 => ?_) (fun b9 => ?_)
    · refine aw_iconst (v := (-1)) K dX7_cut_24 (by decide) ?_
      refine aw_iret K rfl dX7_cut_25 ?_
      exact rfl
    · rw [mf_hp F] at b5
      exact absurd (bI_1.mp b5) b9

set_option maxHeartbeats 4000000 in
set_option maxRecDepth 100000 in
theorem uX7_word (l : Launch) (g : Geo) (sta : Nat → Nat) (h : HS) (a b c e : Int32) (F : MF0 h) : CT (wM l g sta) 6 mX7_word [.ref (g.2.1 0), .int a, .int b, .int c, .int e] h (DR (-1)) := by
  refine CT.at [some (.ref (g.2.1 0)), some (.int a), some (.int b), some (.int c), some (.int e)] 0 rfl (by decide) (Nat.le_of_ble_eq_true rfl) (fun k K => ?_)
  refine aw_al0 K dX7_word_0 ?_
  refine aw_il1 K dX7_word_1 ?_
  refine aw_il2 K dX7_word_2 ?_
  refine aw_il3 K dX7_word_3 ?_
  refine aw_il4 K dX7_word_4 ?_
  refine aw_callV_I K (tX7_isWord l g sta _ _ _ _ _) rfl (by decide) fX7_isWord lX7_238 dX7_word_6 rfl clsX7 rfl (Nat.le_of_ble_eq_true rfl) ?_
  refine aw_if_ne (tgt := 14) K dX7_word_9 (by decide) (fun b9 => ?_) (fun b9 => ?_)
  · exact absurd (mf_nm F a) (fun q => b9 (bI_f (fun z => bI_0.mp q z.1)))
  · refine aw_iconst (v := (-1)) K dX7_word_12 (by decide) ?_
    refine aw_iret K rfl dX7_word_13 ?_
    exact rfl

set_option maxHeartbeats 4000000 in
set_option maxRecDepth 100000 in
theorem uX7_wordOf (l : Launch) (g : Geo) (sta : Nat → Nat) (h : HS) (a b : Int32) (F : MF0 h) : CT (wM l g sta) 6 mX7_wordOf [.ref (g.2.1 0), .int a, .int b] h (DR (-1)) := by
  refine CT.at [some (.ref (g.2.1 0)), some (.int a), some (.int b)] 0 rfl (by decide) (Nat.le_of_ble_eq_true rfl) (fun k K => ?_)
  refine aw_il1 K dX7_wordOf_0 ?_
  refine aw_i2l K dX7_wordOf_1 ?_
  refine aw_lconst (v := 0) K dX7_wordOf_2 (by decide) ?_
  refine aw_al0 K dX7_wordOf_3 ?_
  refine aw_getI K gX7_235 dX7_wordOf_4 rfl rfl ?_
  refine aw_iconst (v := 1) K dX7_wordOf_7 (by decide) ?_
  refine aw_isub K dX7_wordOf_8 ?_
  refine aw_i2l K dX7_wordOf_9 ?_
  refine aw_callS_I K (in32 l g sta _ _ (0) (h.1 0 27 - 1) (by first | rfl | decide) (by first | rfl | decide)) rfl (by decide) fX7_in lX7_102 dX7_wordOf_10 rfl (Nat.le_of_ble_eq_true rfl) ?_
  refine aw_if_eq (tgt := 28) K dX7_wordOf_13 (by decide) (fun b13 => ?_) (fun b13 => ?_)
  · refine aw_iconst (v := (-1)) K dX7_wordOf_28 (by decide) ?_
    refine aw_iret K rfl dX7_wordOf_29 ?_
    exact rfl
  · exact absurd (mf_wo F a) b13

set_option maxHeartbeats 4000000 in
set_option maxRecDepth 100000 in
theorem uX7_weight (l : Launch) (g : Geo) (sta : Nat → Nat) (h : HS) (a b : Int32) (F : MF0 h) : CT (wM l g sta) 6 mX7_weight [.ref (g.2.1 0), .int a, .int b] h (DR (-1)) := by
  refine CT.at [some (.ref (g.2.1 0)), some (.int a), some (.int b)] 0 rfl (by decide) (Nat.le_of_ble_eq_true rfl) (fun k K => ?_)
  refine aw_al0 K dX7_weight_0 ?_
  refine aw_il1 K dX7_weight_1 ?_
  refine aw_callV_I K (tX7_isName l g sta _ _) rfl (by decide) fX7_isName lX7_111 dX7_weight_2 rfl clsX7 rfl (Nat.le_of_ble_eq_true rfl) ?_
  refine aw_if_eq (tgt := 21) K dX7_weight_5 (by decide) (fun b5 => ?_) (fun b5 => ?_)
  · refine aw_iconst (v := (-1)) K dX7_weight_21 (by decide) ?_
    refine aw_iret K rfl dX7_weight_22 ?_
    exact rfl
  · exact absurd (mf_nm F a) b5

set_option maxHeartbeats 4000000 in
set_option maxRecDepth 100000 in
theorem uX7_sayers (l : Launch) (g : Geo) (sta : Nat → Nat) (h : HS) (a : Int32) (F : MF0 h) : CT (wM l g sta) 6 mX7_sayers [.ref (g.2.1 0), .int a] h (DR (-1)) := by
  refine CT.at [some (.ref (g.2.1 0)), some (.int a)] 0 rfl (by decide) (Nat.le_of_ble_eq_true rfl) (fun k K => ?_)
  refine aw_al0 K dX7_sayers_0 ?_
  refine aw_il1 K dX7_sayers_1 ?_
  refine aw_callV_I K (tX7_isName l g sta _ _) rfl (by decide) fX7_isName lX7_111 dX7_sayers_2 rfl clsX7 rfl (Nat.le_of_ble_eq_true rfl) ?_
  refine aw_if_eq (tgt := 16) K dX7_sayers_5 (by decide) (fun b5 => ?_) (fun b5 => ?_)
  · refine aw_iconst (v := (-1)) K dX7_sayers_16 (by decide) ?_
    refine aw_iret K rfl dX7_sayers_17 ?_
    exact rfl
  · exact absurd (mf_nm F a) b5

set_option maxHeartbeats 4000000 in
set_option maxRecDepth 100000 in
theorem uX7_mark (l : Launch) (g : Geo) (sta : Nat → Nat) (h : HS) (a b : Int32) (F : MF0 h) : CT (wM l g sta) 6 mX7_mark [.ref (g.2.1 0), .int a, .int b] h (DR (-1)) := by
  refine CT.at [some (.ref (g.2.1 0)), some (.int a), some (.int b)] 0 rfl (by decide) (Nat.le_of_ble_eq_true rfl) (fun k K => ?_)
  refine aw_al0 K dX7_mark_0 ?_
  refine aw_il1 K dX7_mark_1 ?_
  refine aw_callV_I K (tX7_isName l g sta _ _) rfl (by decide) fX7_isName lX7_111 dX7_mark_2 rfl clsX7 rfl (Nat.le_of_ble_eq_true rfl) ?_
  refine aw_if_eq (tgt := 18) K dX7_mark_5 (by decide) (fun b5 => ?_) (fun b5 => ?_)
  · refine aw_iconst (v := (-1)) K dX7_mark_18 (by decide) ?_
    refine aw_iret K rfl dX7_mark_19 ?_
    exact rfl
  · exact absurd (mf_nm F a) b5

set_option maxHeartbeats 4000000 in
set_option maxRecDepth 100000 in
theorem uX7_span (l : Launch) (g : Geo) (sta : Nat → Nat) (h : HS) (a b c : Int32) (F : MF0 h) : CT (wM l g sta) 6 mX7_span [.ref (g.2.1 0), .int a, .int b, .int c] h (DR (-1)) := by
  refine CT.at [some (.ref (g.2.1 0)), some (.int a), some (.int b), some (.int c)] 0 rfl (by decide) (Nat.le_of_ble_eq_true rfl) (fun k K => ?_)
  refine aw_al0 K dX7_span_0 ?_
  refine aw_il1 K dX7_span_1 ?_
  refine aw_callV_I K (tX7_isName l g sta _ _) rfl (by decide) fX7_isName lX7_111 dX7_span_2 rfl clsX7 rfl (Nat.le_of_ble_eq_true rfl) ?_
  refine aw_if_eq (tgt := 32) K dX7_span_5 (by decide) (fun b5 => ?_) (fun b5 => ?_)
  · refine aw_iconst (v := (-1)) K dX7_span_32 (by decide) ?_
    refine aw_iret K rfl dX7_span_33 ?_
    exact rfl
  · exact absurd (mf_nm F a) b5

set_option maxHeartbeats 4000000 in
set_option maxRecDepth 100000 in
theorem uX7_name (l : Launch) (g : Geo) (sta : Nat → Nat) (h : HS) (a : Int32) (F : MF0 h) : CT (wM l g sta) 6 mX7_name [.ref (g.2.1 0), .int a] h (DR (if 0 ≤ a ∧ a ≤ 999 then 0 else -1)) := by
  refine CT.at [some (.ref (g.2.1 0)), some (.int a)] 0 rfl (by decide) (Nat.le_of_ble_eq_true rfl) (fun k K => ?_)
  refine aw_il1 K dX7_name_0 ?_
  refine aw_i2l K dX7_name_1 ?_
  refine aw_lconst (v := 0) K dX7_name_2 (by decide) ?_
  refine aw_ldc2 K qX7_109 dX7_name_3 ?_
  refine aw_callS_I K (in32 l g sta _ _ (0) (999) (by first | rfl | decide) (by first | rfl | decide)) rfl (by decide) fX7_in lX7_102 dX7_name_6 rfl (Nat.le_of_ble_eq_true rfl) ?_
  refine aw_if_ne (tgt := 14) K dX7_name_9 (by decide) (fun b9 => ?_) (fun b9 => ?_)
  · refine aw_al0 K dX7_name_14 ?_
    refine aw_getI K gX7_98 dX7_name_15 rfl rfl ?_
    refine aw_bipush (v := 12) K dX7_name_18 (by decide) ?_
    refine aw_icmp_ne (tgt := 26) K dX7_name_20 (by decide) (fun b20 => ?_) (fun b20 => ?_)
    · refine aw_al0 K dX7_name_26 ?_
      refine aw_getR K gX7_7 dX7_name_27 rfl rfl ?_
      refine aw_al0 K dX7_name_30 ?_
      refine aw_getI K gX7_98 dX7_name_31 rfl rfl ?_
      refine aw_il1 K dX7_name_34 ?_
      refine aw_iast K dX7_name_35 rfl (by rw [F.1]; exact (vp_in_nI (n := 0) (N := 12) (by decide) (by decide))) ?_
      refine aw_al0 K dX7_name_36 ?_
      refine aw_dup K dX7_name_37 rfl ?_
      refine aw_getI K gX7_98 dX7_name_38 rfl rfl ?_
      refine aw_iconst (v := 1) K dX7_name_41 (by decide) ?_
      refine aw_iadd K dX7_name_42 ?_
      refine aw_putI K gX7_98 fpX7_0 dX7_name_43 rfl rfl ?_
      refine aw_al0 K dX7_name_46 ?_
      refine aw_getI K gX7_98 dX7_name_47 rfl rfl ?_
      refine aw_iconst (v := 1) K dX7_name_50 (by decide) ?_
      refine aw_isub K dX7_name_51 ?_
      refine aw_iret K rfl dX7_name_52 ?_
      show some _ = some _
      rw [if_pos (bI_1.mp b9)]
      simp [rdI, F.1]
    · rw [F.1] at b20
      exact absurd b20 (by decide)
  · refine aw_iconst (v := (-1)) K dX7_name_12 (by decide) ?_
    refine aw_iret K rfl dX7_name_13 ?_
    exact congrArg some (congrArg Value.int ((if_neg (bI_0.mp b9)).symm))

set_option maxHeartbeats 4000000 in
set_option maxRecDepth 100000 in
theorem uX7_day (l : Launch) (g : Geo) (sta : Nat → Nat) (h : HS) (a : Int32) (F : MF0 h) : CT (wM l g sta) 6 mX7_day [.ref (g.2.1 0), .int a] h (DR (if 0 ≤ a ∧ a ≤ 9999 then 0 else -1)) := by
  refine CT.at [some (.ref (g.2.1 0)), some (.int a), none] 1 rfl (by decide) (Nat.le_of_ble_eq_true rfl) (fun k K => ?_)
  refine aw_il1 K dX7_day_0 ?_
  refine aw_i2l K dX7_day_1 ?_
  refine aw_al0 K dX7_day_2 ?_
  refine aw_getI K gX7_106 dX7_day_3 rfl rfl ?_
  refine aw_i2l K dX7_day_6 ?_
  refine aw_ldc2 K qX7_147 dX7_day_7 ?_
  refine aw_callS_I K (in32 l g sta _ _ (h.1 0 12) (9999) (by first | rfl | decide) (by first | rfl | decide)) rfl (by decide) fX7_in lX7_102 dX7_day_10 rfl (Nat.le_of_ble_eq_true rfl) ?_
  refine aw_if_ne (tgt := 18) K dX7_day_13 (by decide) (fun b13 => ?_) (fun b13 => ?_)
  · refine aw_al0 K dX7_day_18 ?_
    refine aw_getI K gX7_106 dX7_day_19 rfl rfl ?_
    refine aw_is2 K dX7_day_22 (by decide) rfl ?_
    refine aw_al0 K dX7_day_23 ?_
    refine aw_il1 K dX7_day_24 ?_
    refine aw_putI K gX7_106 fpX7_12 dX7_day_25 rfl rfl ?_
    refine aw_il2 K dX7_day_28 ?_
    refine aw_iret K rfl dX7_day_29 ?_
    rw [F.2.2.2.1] at b13
    exact congrArg some (congrArg Value.int (F.2.2.2.1.trans (if_pos (bI_1.mp b13)).symm))
  · refine aw_iconst (v := (-1)) K dX7_day_16 (by decide) ?_
    refine aw_iret K rfl dX7_day_17 ?_
    rw [F.2.2.2.1] at b13
    exact congrArg some (congrArg Value.int ((if_neg (bI_0.mp b13)).symm))

set_option maxHeartbeats 4000000 in
set_option maxRecDepth 100000 in
theorem uX7_end (l : Launch) (g : Geo) (sta : Nat → Nat) (h : HS) (a : Int32) (F : MF0 h) : CT (wM l g sta) 6 mX7_end [.ref (g.2.1 0), .int a] h (DR (if 0 ≤ a ∧ a ≤ 0 then 0 else -1)) := by
  refine CT.at [some (.ref (g.2.1 0)), some (.int a), none] 1 rfl (by decide) (Nat.le_of_ble_eq_true rfl) (fun k K => ?_)
  refine aw_il1 K dX7_end_0 ?_
  refine aw_i2l K dX7_end_1 ?_
  refine aw_lconst (v := 0) K dX7_end_2 (by decide) ?_
  refine aw_al0 K dX7_end_3 ?_
  refine aw_getI K gX7_149 dX7_end_4 rfl rfl ?_
  refine aw_i2l K dX7_end_7 ?_
  refine aw_callS_I K (in32 l g sta _ _ (0) (h.1 0 17) (by first | rfl | decide) (by first | rfl | decide)) rfl (by decide) fX7_in lX7_102 dX7_end_8 rfl (Nat.le_of_ble_eq_true rfl) ?_
  refine aw_if_ne (tgt := 16) K dX7_end_11 (by decide) (fun b11 => ?_) (fun b11 => ?_)
  · refine aw_al0 K dX7_end_16 ?_
    refine aw_getI K gX7_149 dX7_end_17 rfl rfl ?_
    refine aw_is2 K dX7_end_20 (by decide) rfl ?_
    refine aw_al0 K dX7_end_21 ?_
    refine aw_il1 K dX7_end_22 ?_
    refine aw_putI K gX7_149 fpX7_17 dX7_end_23 rfl rfl ?_
    refine aw_il2 K dX7_end_26 ?_
    refine aw_iret K rfl dX7_end_27 ?_
    rw [F.2.2.2.2.2.1] at b11
    exact congrArg some (congrArg Value.int (F.2.2.2.2.2.1.trans (if_pos (bI_1.mp b11)).symm))
  · refine aw_iconst (v := (-1)) K dX7_end_14 (by decide) ?_
    refine aw_iret K rfl dX7_end_15 ?_
    rw [F.2.2.2.2.2.1] at b11
    exact congrArg some (congrArg Value.int ((if_neg (bI_0.mp b11)).symm))

set_option maxHeartbeats 4000000 in
set_option maxRecDepth 100000 in
theorem uX7_fault (l : Launch) (g : Geo) (sta : Nat → Nat) (h : HS) (F : MF0 h) : CT (wM l g sta) 6 mX7_fault [.ref (g.2.1 0)] h (DR 0) := by
  refine CT.at [some (.ref (g.2.1 0))] 0 rfl (by decide) (Nat.le_of_ble_eq_true rfl) (fun k K => ?_)
  refine aw_al0 K dX7_fault_0 ?_
  refine aw_getI K gX7_154 dX7_fault_1 rfl rfl ?_
  refine aw_iret K rfl dX7_fault_4 ?_
  exact congrArg some (congrArg Value.int (F.2.2.2.2.2.2.1))

set_option maxHeartbeats 4000000 in
set_option maxRecDepth 100000 in
theorem uX7_lost (l : Launch) (g : Geo) (sta : Nat → Nat) (h : HS) (F : MF0 h) : CT (wM l g sta) 6 mX7_lost [.ref (g.2.1 0)] h (DR 0) := by
  refine CT.at [some (.ref (g.2.1 0))] 0 rfl (by decide) (Nat.le_of_ble_eq_true rfl) (fun k K => ?_)
  refine aw_al0 K dX7_lost_0 ?_
  refine aw_getI K gX7_333 dX7_lost_1 rfl rfl ?_
  refine aw_iret K rfl dX7_lost_4 ?_
  exact congrArg some (congrArg Value.int (F.2.2.2.2.1))

set_option maxHeartbeats 4000000 in
set_option maxRecDepth 100000 in
theorem uX7_rule (l : Launch) (g : Geo) (sta : Nat → Nat) (h : HS) (a : Int32) (F : MF0 h) : CT (wM l g sta) 6 mX7_rule [.ref (g.2.1 0), .int a] h (DR (if 0 ≤ a ∧ a ≤ 9 then aw_r0 a.toNatClampNeg else -1)) := by
  refine CT.at [some (.ref (g.2.1 0)), some (.int a)] 0 rfl (by decide) (Nat.le_of_ble_eq_true rfl) (fun k K => ?_)
  refine aw_il1 K dX7_rule_0 ?_
  refine aw_i2l K dX7_rule_1 ?_
  refine aw_lconst (v := 0) K dX7_rule_2 (by decide) ?_
  refine aw_ldc2 K qX7_207 dX7_rule_3 ?_
  refine aw_callS_I K (in32 l g sta _ _ (0) (9) (by first | rfl | decide) (by first | rfl | decide)) rfl (by decide) fX7_in lX7_102 dX7_rule_6 rfl (Nat.le_of_ble_eq_true rfl) ?_
  refine aw_if_eq (tgt := 21) K dX7_rule_9 (by decide) (fun b9 => ?_) (fun b9 => ?_)
  · refine aw_iconst (v := (-1)) K dX7_rule_21 (by decide) ?_
    refine aw_iret K rfl dX7_rule_22 ?_
    first
      | exact congrArg some (congrArg Value.int (if_neg (bI_0.mp b9)).symm)
      | (obtain ⟨j, hj, rfl⟩ := ru_in (bI_1.mp b9)
         exact congrArg some (congrArg Value.int ((F.2.2.2.2.2.2.2.1 _ (by rw [nI_clamp (by omega)]; exact hj)).trans (if_pos (bI_1.mp b9)).symm)))
  · refine aw_al0 K dX7_rule_12 ?_
    refine aw_getR K gX7_41 dX7_rule_13 rfl rfl ?_
    refine aw_il1 K dX7_rule_16 ?_
    refine aw_iald K dX7_rule_17 rfl (by obtain ⟨j, hj, rfl⟩ := ru_in (bI_1.mp b9); exact vp_in_nI hj (by decide)) ?_
    refine aw_goto (tgt := 22) K dX7_rule_18 (by decide) ?_
    refine aw_iret K rfl dX7_rule_22 ?_
    first
      | exact congrArg some (congrArg Value.int (if_neg (bI_0.mp b9)).symm)
      | (obtain ⟨j, hj, rfl⟩ := ru_in (bI_1.mp b9)
         exact congrArg some (congrArg Value.int ((F.2.2.2.2.2.2.2.1 _ (by rw [nI_clamp (by omega)]; exact hj)).trans (if_pos (bI_1.mp b9)).symm)))

set_option maxHeartbeats 4000000 in
set_option maxRecDepth 100000 in
theorem ul_mfeed {l : Launch} {g : Geo} {sta : Nat → Nat} {k : KT} (K : AOK (wM l g sta) mX7_feed k) (v : Int64) :
    ∀ (n i : Nat) (s : Int32) (h : HS), i ≤ 8 → 8 - i < n → s = (if i = 8 then -8 else nI (56 - 8 * i)) → h.1 0 17 = nI i → AW (wM l g sta) (DR 8) 6 mX7_feed k 19 [some (.ref (g.2.1 0)), some (.long v), none, some (.int s)] [] h := by
  intro n
  induction n with
  | zero => intro i s h h1 h2; omega
  | succ n ih =>
    intro i s h h1 h2 hs hl
    refine aw_il3 K dX7_feed_19 ?_
    refine aw_if_lt (tgt := 56) K dX7_feed_20 (by decide) (fun b20 => ?_) (fun b20 => ?_)
    · have hi : i = 8 := by
        rcases Nat.lt_or_ge i 8 with q | q
        · rw [hs, if_neg (by omega)] at b20
          exact absurd b20 (tk_sh i q).1
        · omega
      refine aw_al0 K dX7_feed_56 ?_
      refine aw_getI K gX7_149 dX7_feed_57 rfl rfl ?_
      refine aw_iret K rfl dX7_feed_60 ?_
      show some _ = some _
      rw [hl, hi]
      rfl
    · have hi : i < 8 := by
        rcases Nat.lt_or_ge i 8 with q | q
        · exact q
        · rw [hs, if_pos (by omega)] at b20
          exact absurd (by decide) b20
      refine aw_al0 K dX7_feed_23 ?_
      refine aw_getR K gX7_50 dX7_feed_24 rfl rfl ?_
      refine aw_al0 K dX7_feed_27 ?_
      refine aw_getI K gX7_149 dX7_feed_28 rfl rfl ?_
      refine aw_ll1 K dX7_feed_31 ?_
      refine aw_il3 K dX7_feed_32 ?_
      refine aw_lshr K dX7_feed_33 ?_
      refine aw_ldc2 K qX7_152 dX7_feed_34 ?_
      refine aw_land K dX7_feed_37 ?_
      refine aw_l2i K dX7_feed_38 ?_
      refine aw_iast K dX7_feed_39 rfl (by rw [hl]; exact vp_in_nI (by omega) (by decide)) ?_
      refine aw_al0 K dX7_feed_40 ?_
      refine aw_dup K dX7_feed_41 rfl ?_
      refine aw_getI K gX7_149 dX7_feed_42 rfl rfl ?_
      refine aw_iconst (v := 1) K dX7_feed_45 (by decide) ?_
      refine aw_iadd K dX7_feed_46 ?_
      refine aw_putI K gX7_149 fpX7_17 dX7_feed_47 rfl rfl ?_
      refine aw_ii3 (v := _ + (-8)) K dX7_feed_50 rfl (by decide) rfl ?_
      refine aw_goto (tgt := 19) K dX7_feed_53 (by decide) ?_
      refine ih (i + 1) _ _ (by omega) (by omega) ?_ ?_
      · rw [hs, if_neg (by omega), (tk_sh i hi).2]
        by_cases q : i = 7
        · rw [if_pos q, if_pos (by omega)]
        · rw [if_neg q, if_neg (by omega)]
      · simp only [rdI]
        simp [hl, nI_1]
set_option maxHeartbeats 4000000 in
set_option maxRecDepth 100000 in
theorem uX7_feed (l : Launch) (g : Geo) (sta : Nat → Nat) (h : HS) (v : Int64) (F : MF0 h) : CT (wM l g sta) 6 mX7_feed [.ref (g.2.1 0), .long v] h (DR 8) := by
  refine CT.at [some (.ref (g.2.1 0)), some (.long v), none, none] 1 rfl (by decide) (Nat.le_of_ble_eq_true rfl) (fun k K => ?_)
  refine aw_al0 K dX7_feed_0 ?_
  refine aw_getI K gX7_149 dX7_feed_1 rfl rfl ?_
  refine aw_bipush (v := 8) K dX7_feed_4 (by decide) ?_
  refine aw_iadd K dX7_feed_6 ?_
  refine aw_sipush (v := 200) K dX7_feed_7 (by decide) ?_
  refine aw_icmp_le (tgt := 16) K dX7_feed_10 (by decide) (fun b10 => ?_) (fun b10 => ?_)
  · refine aw_bipush (v := 56) K dX7_feed_16 (by decide) ?_
    refine aw_is3 K dX7_feed_18 (by decide) rfl ?_
    exact ul_mfeed K v 9 0 56 h (by omega) (by omega) (by decide) F.2.2.2.2.2.1
  · rw [F.2.2.2.2.2.1] at b10
    exact absurd (by decide) b10

set_option maxHeartbeats 4000000 in
set_option maxRecDepth 100000 in
theorem ul_begins {l : Launch} {g : Geo} {sta : Nat → Nat} {P : Option Value → HS → Prop} {d : Nat} {k : KT} (K : AOK (wM l g sta) mX7_begins k) (h : HS) (hN : h.1 0 0 = 0) (hT : h.1 0 6 = 0) (hP : P none (setR h 15 (fil (h.1 15) 196 0))) :
    ∀ n i : Nat, i ≤ 196 → 196 - i < n → AW (wM l g sta) P d mX7_begins k 2 [some (.ref (g.2.1 0)), some (.int (nI i)), none] [] (setR h 15 (fil (h.1 15) i 0)) := by
  intro n
  induction n with
  | zero => intro i h1 h2; omega
  | succ n ih =>
    intro i h1 h2
    refine aw_il1 K dX7_begins_2 ?_
    refine aw_sipush (v := 196) K dX7_begins_3 (by decide) ?_
    refine aw_icmp_ge (tgt := 22) K dX7_begins_6 (by decide) (fun b6 => ?_) (fun b6 => ?_)
    · obtain rfl : i = 196 := by
        have := (nI_leI (a := 196) (by decide) (by omega : i < 2 ^ 31)).mp b6
        omega
      refine aw_iconst (v := 0) K dX7_begins_22 (by decide) ?_
      refine aw_is1 K dX7_begins_23 (by decide) rfl ?_
      refine aw_il1 K dX7_begins_24 ?_
      refine aw_al0 K dX7_begins_25 ?_
      refine aw_getI K gX7_98 dX7_begins_26 rfl rfl ?_
      refine aw_icmp_ge (tgt := 53) K dX7_begins_29 (by decide) (fun b29 => ?_) (fun b29 => ?_)
      · refine aw_iconst (v := 0) K dX7_begins_53 (by decide) ?_
        refine aw_is1 K dX7_begins_54 (by decide) rfl ?_
        refine aw_il1 K dX7_begins_55 ?_
        refine aw_al0 K dX7_begins_56 ?_
        refine aw_getI K gX7_121 dX7_begins_57 rfl rfl ?_
        refine aw_icmp_ge (tgt := 125) K dX7_begins_60 (by decide) (fun b60 => ?_) (fun b60 => ?_)
        · refine aw_vret K rfl dX7_begins_125 ?_
          exact hP
        · exact absurd (show _ ≤ _ by rw [show (setR h 15 (fil (h.1 15) 196 0)).1 0 6 = h.1 0 6 from rfl, hT]; decide) b60
      · exact absurd (show _ ≤ _ by rw [show (setR h 15 (fil (h.1 15) 196 0)).1 0 0 = h.1 0 0 from rfl, hN]; decide) b29
    · have hlt : i < 196 := by
        rcases Nat.lt_or_ge i 196 with q | q
        · exact q
        · exact absurd (nI_le (a := 196) q (by omega)) b6
      refine aw_al0 K dX7_begins_9 ?_
      refine aw_getR K gX7_53 dX7_begins_10 rfl rfl ?_
      refine aw_il1 K dX7_begins_13 ?_
      refine aw_iconst (v := 0) K dX7_begins_14 (by decide) ?_
      refine aw_iast K dX7_begins_15 rfl (vp_in_nI hlt (by decide)) ?_
      refine aw_ii1 (v := _ + 1) K dX7_begins_16 rfl (by decide) rfl ?_
      refine aw_goto (tgt := 2) K dX7_begins_19 (by decide) ?_
      rw [nI_1, nI_clamp (by omega), setI_setR, fil_s]
      exact ih (i + 1) (by omega) (by omega)
def MB (h : HS) : HS := setR h 15 (fil (h.1 15) 196 0)
theorem mf_MB {h : HS} (F : MF0 h) : MF0 (MB h) := F
theorem mb_left (h : HS) (j : Nat) (hj : j < 196) : (MB h).1 15 j = 0 := by simp [MB, rdR, fil, hj]
set_option maxHeartbeats 4000000 in
set_option maxRecDepth 100000 in
theorem uX7_begins (l : Launch) (g : Geo) (sta : Nat → Nat) (h : HS) (F : MF0 h) : CT (wM l g sta) 3 mX7_begins [.ref (g.2.1 0)] h (DV (MB h)) := by
  refine CT.at [some (.ref (g.2.1 0)), none, none] 2 rfl (by decide) (Nat.le_of_ble_eq_true rfl) (fun k K => ?_)
  refine aw_iconst (v := 0) K dX7_begins_0 (by decide) ?_
  refine aw_is1 K dX7_begins_1 (by decide) rfl ?_
  have e0 : setR h 15 (fil (h.1 15) 0 0) = h := by rw [fil_0, setR_id]
  have := ul_begins (P := DV (MB h)) (d := 3) K h F.1 F.2.1 ⟨rfl, rfl⟩ 197 0 (by omega) (by omega)
  rw [e0] at this
  exact this

set_option maxHeartbeats 4000000 in
set_option maxRecDepth 100000 in
theorem ul_reaches2 {l : Launch} {g : Geo} {sta : Nat → Nat} {k : KT} (K : AOK (wM l g sta) mX7_reaches k) (h : HS) (hz : ∀ j, j < 196 → h.1 15 j = 0) (h12 : h.1 17 0 = 12) (h13 : h.1 16 13 = -4) :
    ∀ n i : Nat, i ≤ 14 → 14 - i < n → AW (wM l g sta) (DR 0) 1 mX7_reaches k 50 [some (.ref (g.2.1 0)), some (.int 1), some (.int 0), some (.int (nI i))] [] h := by
  intro n
  induction n with
  | zero => intro i h1 h2; omega
  | succ n ih =>
    intro i h1 h2
    refine aw_il3 K dX7_reaches_50 ?_
    refine aw_bipush (v := 14) K dX7_reaches_51 (by decide) ?_
    refine aw_icmp_ge (tgt := 114) K dX7_reaches_53 (by decide) (fun b53 => ?_) (fun b53 => ?_)
    · refine aw_ii2 (v := _ + 1) K dX7_reaches_114 rfl (by decide) rfl ?_
      refine aw_goto (tgt := 43) K dX7_reaches_117 (by decide) ?_
      refine aw_il2 K dX7_reaches_43 ?_
      refine aw_il1 K dX7_reaches_44 ?_
      refine aw_icmp_ge (tgt := 120) K dX7_reaches_45 (by decide) (fun b45 => ?_) (fun b45 => ?_)
      · refine aw_al0 K dX7_reaches_120 ?_
        refine aw_getR K gX7_56 dX7_reaches_121 rfl rfl ?_
        refine aw_bipush (v := 13) K dX7_reaches_124 (by decide) ?_
        refine aw_iald K dX7_reaches_126 rfl (vp_in_nI (n := 13) (by decide) (by decide)) ?_
        refine aw_bipush (v := (-4)) K dX7_reaches_127 (by decide) ?_
        refine aw_icmp_eq (tgt := 136) K dX7_reaches_129 (by decide) (fun b129 => ?_) (fun b129 => ?_)
        · refine aw_iconst (v := 0) K dX7_reaches_136 (by decide) ?_
          refine aw_zret K rfl dX7_reaches_137 (by first | rfl | exact bI_nar _) ?_
          exact rfl
        · exact absurd h13 b129
      · exact absurd (by decide) b45
    · have hlt : i < 14 := by
        rcases Nat.lt_or_ge i 14 with q | q
        · exact q
        · exact absurd (nI_le (a := 14) q (by omega)) b53
      refine aw_al0 K dX7_reaches_56 ?_
      refine aw_getR K gX7_56 dX7_reaches_57 rfl rfl ?_
      refine aw_il3 K dX7_reaches_60 ?_
      refine aw_iald K dX7_reaches_61 rfl (vp_in_nI hlt (by decide)) ?_
      refine aw_bipush (v := (-4)) K dX7_reaches_62 (by decide) ?_
      refine aw_icmp_ne (tgt := 108) K dX7_reaches_64 (by decide) (fun b64 => ?_) (fun b64 => ?_)
      · refine aw_ii3 (v := _ + 1) K dX7_reaches_108 rfl (by decide) rfl ?_
        refine aw_goto (tgt := 50) K dX7_reaches_111 (by decide) ?_
        rw [nI_1]
        exact ih (i + 1) (by omega) (by omega)
      · refine aw_al0 K dX7_reaches_67 ?_
        refine aw_getR K gX7_53 dX7_reaches_68 rfl rfl ?_
        refine aw_bipush (v := 14) K dX7_reaches_71 (by decide) ?_
        refine aw_al0 K dX7_reaches_73 ?_
        refine aw_getR K gX7_59 dX7_reaches_74 rfl rfl ?_
        refine aw_il2 K dX7_reaches_77 ?_
        refine aw_iald K dX7_reaches_78 rfl (vp_in_nI (n := 0) (by decide) (by decide)) ?_
        rw [show h.1 17 (Int32.toNatClampNeg 0) = nI 12 from h12]
        refine aw_imul K dX7_reaches_79 ?_
        refine aw_il3 K dX7_reaches_80 ?_
        rw [show (14 : Int32) = nI 14 from rfl, pk_mul]
        refine aw_iadd K dX7_reaches_81 ?_
        rw [nI_add]
        refine aw_iald K dX7_reaches_82 rfl (vp_in_nI (by omega) (by decide)) ?_
        rw [nI_clamp (by omega), hz _ (by omega)]
        refine aw_if_le (tgt := 108) K dX7_reaches_83 (by decide) (fun b83 => ?_) (fun b83 => ?_)
        · refine aw_ii3 (v := _ + 1) K dX7_reaches_108 rfl (by decide) rfl ?_
          refine aw_goto (tgt := 50) K dX7_reaches_111 (by decide) ?_
          rw [nI_1]
          exact ih (i + 1) (by omega) (by omega)
        · exact absurd (by decide) b83
set_option maxHeartbeats 4000000 in
set_option maxRecDepth 100000 in
theorem ul_reaches1 {l : Launch} {g : Geo} {sta : Nat → Nat} {k : KT} (K : AOK (wM l g sta) mX7_reaches k) (h : HS) (hz : ∀ j, j < 196 → h.1 15 j = 0) :
    ∀ n i : Nat, i ≤ 14 → 14 - i < n → AW (wM l g sta) (DR 0) 1 mX7_reaches k 2 [some (.ref (g.2.1 0)), some (.int (nI i)), none, none] [] (setR h 16 (fil (h.1 16) i (-4))) := by
  intro n
  induction n with
  | zero => intro i h1 h2; omega
  | succ n ih =>
    intro i h1 h2
    refine aw_il1 K dX7_reaches_2 ?_
    refine aw_bipush (v := 14) K dX7_reaches_3 (by decide) ?_
    refine aw_icmp_ge (tgt := 22) K dX7_reaches_5 (by decide) (fun b5 => ?_) (fun b5 => ?_)
    · obtain rfl : i = 14 := by
        have := (nI_leI (a := 14) (by decide) (by omega : i < 2 ^ 31)).mp b5
        omega
      refine aw_al0 K dX7_reaches_22 ?_
      refine aw_getR K gX7_56 dX7_reaches_23 rfl rfl ?_
      refine aw_bipush (v := 12) K dX7_reaches_26 (by decide) ?_
      refine aw_bipush (v := 12) K dX7_reaches_28 (by decide) ?_
      refine aw_iast K dX7_reaches_30 rfl (vp_in_nI (n := 12) (by decide) (by decide)) ?_
      refine aw_al0 K dX7_reaches_31 ?_
      refine aw_getR K gX7_59 dX7_reaches_32 rfl rfl ?_
      refine aw_iconst (v := 0) K dX7_reaches_35 (by decide) ?_
      refine aw_bipush (v := 12) K dX7_reaches_36 (by decide) ?_
      refine aw_iast K dX7_reaches_38 rfl (vp_in_nI (n := 0) (by decide) (by decide)) ?_
      refine aw_iconst (v := 1) K dX7_reaches_39 (by decide) ?_
      refine aw_is1 K dX7_reaches_40 (by decide) rfl ?_
      refine aw_iconst (v := 0) K dX7_reaches_41 (by decide) ?_
      refine aw_is2 K dX7_reaches_42 (by decide) rfl ?_
      refine aw_il2 K dX7_reaches_43 ?_
      refine aw_il1 K dX7_reaches_44 ?_
      refine aw_icmp_ge (tgt := 120) K dX7_reaches_45 (by decide) (fun b45 => ?_) (fun b45 => ?_)
      · exact absurd b45 (by decide)
      · refine aw_iconst (v := 0) K dX7_reaches_48 (by decide) ?_
        refine aw_is3 K dX7_reaches_49 (by decide) rfl ?_
        refine ul_reaches2 K _ (fun j hj => ?_) ?_ ?_ 15 0 (by omega) (by omega)
        · simp only [rdI, rdR]
          simp [hz j hj]
        · simp only [rdI]
          rfl
        · simp only [rdI, rdR]
          rfl
    · have hlt : i < 14 := by
        rcases Nat.lt_or_ge i 14 with q | q
        · exact q
        · exact absurd (nI_le (a := 14) q (by omega)) b5
      refine aw_al0 K dX7_reaches_8 ?_
      refine aw_getR K gX7_56 dX7_reaches_9 rfl rfl ?_
      refine aw_il1 K dX7_reaches_12 ?_
      refine aw_bipush (v := (-4)) K dX7_reaches_13 (by decide) ?_
      refine aw_iast K dX7_reaches_15 rfl (vp_in_nI hlt (by decide)) ?_
      refine aw_ii1 (v := _ + 1) K dX7_reaches_16 rfl (by decide) rfl ?_
      refine aw_goto (tgt := 2) K dX7_reaches_19 (by decide) ?_
      rw [nI_1, nI_clamp (by omega), setI_setR, fil_s]
      exact ih (i + 1) (by omega) (by omega)
set_option maxHeartbeats 4000000 in
set_option maxRecDepth 100000 in
theorem uX7_reaches (l : Launch) (g : Geo) (sta : Nat → Nat) (h : HS) (hz : ∀ j, j < 196 → h.1 15 j = 0) : CT (wM l g sta) 1 mX7_reaches [.ref (g.2.1 0)] h (DR 0) := by
  refine CT.at [some (.ref (g.2.1 0)), none, none, none] 3 rfl (by decide) (Nat.le_of_ble_eq_true rfl) (fun k K => ?_)
  refine aw_iconst (v := 0) K dX7_reaches_0 (by decide) ?_
  refine aw_is1 K dX7_reaches_1 (by decide) rfl ?_
  have e0 : setR h 16 (fil (h.1 16) 0 (-4)) = h := by rw [fil_0, setR_id]
  have := ul_reaches1 K h hz 15 0 (by omega) (by omega)
  rw [e0] at this
  exact this
set_option maxHeartbeats 4000000 in
set_option maxRecDepth 100000 in
theorem uX7_flows (l : Launch) (g : Geo) (sta : Nat → Nat) (h : HS) (hz : ∀ j, j < 196 → h.1 15 j = 0) : CT (wM l g sta) 2 mX7_flows [.ref (g.2.1 0)] h (DR 0) := by
  refine CT.at [some (.ref (g.2.1 0)), none, none, none, none] 4 rfl (by decide) (Nat.le_of_ble_eq_true rfl) (fun k K => ?_)
  refine aw_iconst (v := 0) K dX7_flows_0 (by decide) ?_
  refine aw_is1 K dX7_flows_1 (by decide) rfl ?_
  refine aw_al0 K dX7_flows_2 ?_
  refine aw_callV K (uX7_reaches l g sta _ hz) rfl (by decide) fX7_reaches lX7_209 dX7_flows_3 rfl clsX7 rfl (Nat.le_of_ble_eq_true rfl) (fun o h2 hq => ?_)
  subst hq
  refine aw_if_eq (tgt := 128) K dX7_flows_6 (by decide) (fun b6 => ?_) (fun b6 => ?_)
  · refine aw_il1 K dX7_flows_128 ?_
    refine aw_iret K rfl dX7_flows_129 ?_
    exact rfl
  · exact absurd rfl b6

set_option maxHeartbeats 4000000 in
set_option maxRecDepth 100000 in
theorem uX7_trustOf (l : Launch) (g : Geo) (sta : Nat → Nat) (h : HS) (a : Int32) (F : MF0 h) : CT (wM l g sta) 4 mX7_trustOf [.ref (g.2.1 0), .int a] h (DR 0) := by
  refine CT.at [some (.ref (g.2.1 0)), some (.int a), none] 1 rfl (by decide) (Nat.le_of_ble_eq_true rfl) (fun k K => ?_)
  refine aw_al0 K dX7_trustOf_0 ?_
  refine aw_callV_V K (uX7_begins l g sta _ F) rfl (by decide) fX7_begins lX7_214 dX7_trustOf_1 rfl clsX7 rfl (Nat.le_of_ble_eq_true rfl) ?_
  refine aw_iconst (v := 0) K dX7_trustOf_4 (by decide) ?_
  refine aw_is2 K dX7_trustOf_5 (by decide) rfl ?_
  refine aw_il2 K dX7_trustOf_6 ?_
  refine aw_al0 K dX7_trustOf_7 ?_
  refine aw_getI K gX7_98 dX7_trustOf_8 rfl rfl ?_
  refine aw_icmp_ge (tgt := 47) K dX7_trustOf_11 (by decide) (fun b11 => ?_) (fun b11 => ?_)
  · refine aw_al0 K dX7_trustOf_47 ?_
    refine aw_callV K (uX7_flows l g sta _ (fun j hj => mb_left h j hj)) rfl (by decide) fX7_flows lX7_217 dX7_trustOf_48 rfl clsX7 rfl (Nat.le_of_ble_eq_true rfl) (fun o h2 hq => ?_)
    subst hq
    refine aw_iret K rfl dX7_trustOf_51 ?_
    exact rfl
  · exact absurd (by rw [(mf_MB F).1]; decide) b11

set_option maxHeartbeats 4000000 in
set_option maxRecDepth 100000 in
theorem uX7_heap (l : Launch) (g : Geo) (sta : Nat → Nat) (h : HS) (a : Int32) (F : MF0 h) : CT (wM l g sta) 6 mX7_heap [.ref (g.2.1 0), .int a] h (DR (if a = 0 then 0 else -1)) := by
  refine CT.at [some (.ref (g.2.1 0)), some (.int a)] 0 rfl (by decide) (Nat.le_of_ble_eq_true rfl) (fun k K => ?_)
  refine aw_al0 K dX7_heap_0 ?_
  refine aw_il1 K dX7_heap_1 ?_
  refine aw_callV_I K (tX7_areNames l g sta _ _) rfl (by decide) fX7_areNames lX7_223 dX7_heap_2 rfl clsX7 rfl (Nat.le_of_ble_eq_true rfl) ?_
  rw [mf_hp F]
  refine aw_if_eq (tgt := 16) K dX7_heap_5 (by decide) (fun b5 => ?_) (fun b5 => ?_)
  · refine aw_iconst (v := (-1)) K dX7_heap_16 (by decide) ?_
    refine aw_iret K rfl dX7_heap_17 ?_
    first
      | exact congrArg some (congrArg Value.int (if_neg (bI_0.mp b5)).symm)
      | exact congrArg some (congrArg Value.int (if_pos (bI_1.mp b5)).symm)
  · refine aw_al0 K dX7_heap_8 ?_
    refine aw_il1 K dX7_heap_9 ?_
    refine aw_callV K (uX7_trustOf l g sta _ _ F) rfl (by decide) fX7_trustOf lX7_220 dX7_heap_10 rfl clsX7 rfl (Nat.le_of_ble_eq_true rfl) (fun o h2 hq => ?_)
    subst hq
    refine aw_goto (tgt := 17) K dX7_heap_13 (by decide) ?_
    refine aw_iret K rfl dX7_heap_17 ?_
    first
      | exact congrArg some (congrArg Value.int (if_neg (bI_0.mp b5)).symm)
      | exact congrArg some (congrArg Value.int (if_pos (bI_1.mp b5)).symm)

set_option maxHeartbeats 4000000 in
set_option maxRecDepth 100000 in
theorem uX7_low (l : Launch) (g : Geo) (sta : Nat → Nat) (h : HS) (a : Int32) (F : MF0 h) : CT (wM l g sta) 6 mX7_low [.ref (g.2.1 0), .int a] h (DR (if 0 ≤ a ∧ a ≤ 1 then -4 else -1)) := by
  refine CT.at [some (.ref (g.2.1 0)), some (.int a), none, none, none, none, none] 5 rfl (by decide) (Nat.le_of_ble_eq_true rfl) (fun k K => ?_)
  refine aw_il1 K dX7_low_0 ?_
  refine aw_i2l K dX7_low_1 ?_
  refine aw_lconst (v := 0) K dX7_low_2 (by decide) ?_
  refine aw_lconst (v := 1) K dX7_low_3 (by decide) ?_
  refine aw_callS_I K (in32 l g sta _ _ (0) (1) (by first | rfl | decide) (by first | rfl | decide)) rfl (by decide) fX7_in lX7_102 dX7_low_4 rfl (Nat.le_of_ble_eq_true rfl) ?_
  refine aw_if_ne (tgt := 12) K dX7_low_7 (by decide) (fun b7 => ?_) (fun b7 => ?_)
  · refine aw_bipush (v := (-4)) K dX7_low_12 (by decide) ?_
    refine aw_is2 K dX7_low_14 (by decide) rfl ?_
    refine aw_bipush (v := (-4)) K dX7_low_15 (by decide) ?_
    refine aw_is3 K dX7_low_17 (by decide) rfl ?_
    refine aw_iconst (v := 0) K dX7_low_18 (by decide) ?_
    refine aw_is4 K dX7_low_19 (by decide) rfl ?_
    refine aw_il4 K dX7_low_21 ?_
    refine aw_al0 K dX7_low_23 ?_
    refine aw_getI K gX7_98 dX7_low_24 rfl rfl ?_
    refine aw_icmp_ge (tgt := 98) K dX7_low_27 (by decide) (fun b27 => ?_) (fun b27 => ?_)
    · refine aw_il1 K dX7_low_98 ?_
      refine aw_if_ne (tgt := 106) K dX7_low_99 (by decide) (fun b99 => ?_) (fun b99 => ?_)
      · refine aw_il3 K dX7_low_106 ?_
        refine aw_iret K rfl dX7_low_107 ?_
        exact congrArg some (congrArg Value.int ((if_pos (bI_1.mp b7)).symm))
      · refine aw_il2 K dX7_low_102 ?_
        refine aw_goto (tgt := 107) K dX7_low_103 (by decide) ?_
        refine aw_iret K rfl dX7_low_107 ?_
        exact congrArg some (congrArg Value.int ((if_pos (bI_1.mp b7)).symm))
    · exact absurd (by rw [F.1]; decide) b27
  · refine aw_iconst (v := (-1)) K dX7_low_10 (by decide) ?_
    refine aw_iret K rfl dX7_low_11 ?_
    exact congrArg some (congrArg Value.int ((if_neg (bI_0.mp b7)).symm))

set_option maxHeartbeats 4000000 in
set_option maxRecDepth 100000 in
theorem uX7_twins (l : Launch) (g : Geo) (sta : Nat → Nat) (h : HS) (a : Int32) (F : MF0 h) : CT (wM l g sta) 6 mX7_twins [.ref (g.2.1 0), .int a] h (DR (if 0 ≤ a ∧ a ≤ 1 then -4 else -1)) := by
  refine CT.at [some (.ref (g.2.1 0)), some (.int a), none, none, none, none, none] 5 rfl (by decide) (Nat.le_of_ble_eq_true rfl) (fun k K => ?_)
  refine aw_il1 K dX7_twins_0 ?_
  refine aw_i2l K dX7_twins_1 ?_
  refine aw_lconst (v := 0) K dX7_twins_2 (by decide) ?_
  refine aw_lconst (v := 1) K dX7_twins_3 (by decide) ?_
  refine aw_callS_I K (in32 l g sta _ _ (0) (1) (by first | rfl | decide) (by first | rfl | decide)) rfl (by decide) fX7_in lX7_102 dX7_twins_4 rfl (Nat.le_of_ble_eq_true rfl) ?_
  refine aw_if_ne (tgt := 12) K dX7_twins_7 (by decide) (fun b7 => ?_) (fun b7 => ?_)
  · refine aw_bipush (v := (-4)) K dX7_twins_12 (by decide) ?_
    refine aw_is2 K dX7_twins_14 (by decide) rfl ?_
    refine aw_iconst (v := 0) K dX7_twins_15 (by decide) ?_
    refine aw_is3 K dX7_twins_16 (by decide) rfl ?_
    refine aw_iconst (v := 0) K dX7_twins_17 (by decide) ?_
    refine aw_is4 K dX7_twins_18 (by decide) rfl ?_
    refine aw_il4 K dX7_twins_20 ?_
    refine aw_al0 K dX7_twins_22 ?_
    refine aw_getI K gX7_98 dX7_twins_23 rfl rfl ?_
    refine aw_icmp_ge (tgt := 139) K dX7_twins_26 (by decide) (fun b26 => ?_) (fun b26 => ?_)
    · refine aw_il2 K dX7_twins_139 ?_
      refine aw_bipush (v := (-4)) K dX7_twins_140 (by decide) ?_
      refine aw_icmp_ne (tgt := 150) K dX7_twins_142 (by decide) (fun b142 => ?_) (fun b142 => ?_)
      · exact absurd rfl b142
      · refine aw_bipush (v := (-4)) K dX7_twins_145 (by decide) ?_
        refine aw_goto (tgt := 159) K dX7_twins_147 (by decide) ?_
        refine aw_iret K rfl dX7_twins_159 ?_
        exact congrArg some (congrArg Value.int ((if_pos (bI_1.mp b7)).symm))
    · exact absurd (by rw [F.1]; decide) b26
  · refine aw_iconst (v := (-1)) K dX7_twins_10 (by decide) ?_
    refine aw_iret K rfl dX7_twins_11 ?_
    exact congrArg some (congrArg Value.int ((if_neg (bI_0.mp b7)).symm))

set_option maxHeartbeats 4000000 in
set_option maxRecDepth 100000 in
theorem uX7_ringOf (l : Launch) (g : Geo) (sta : Nat → Nat) (h : HS) (a b : Int32) (F : MF0 h) : CT (wM l g sta) 2 mX7_ringOf [.ref (g.2.1 0), .int a, .int b] h (DI 0 h) := by
  refine CT.at [some (.ref (g.2.1 0)), some (.int a), some (.int b), none, none, none] 3 rfl (by decide) (Nat.le_of_ble_eq_true rfl) (fun k K => ?_)
  refine aw_iconst (v := 0) K dX7_ringOf_0 (by decide) ?_
  refine aw_is3 K dX7_ringOf_1 (by decide) rfl ?_
  refine aw_iconst (v := 0) K dX7_ringOf_2 (by decide) ?_
  refine aw_is4 K dX7_ringOf_3 (by decide) rfl ?_
  refine aw_il4 K dX7_ringOf_5 ?_
  refine aw_al0 K dX7_ringOf_7 ?_
  refine aw_getI K gX7_235 dX7_ringOf_8 rfl rfl ?_
  refine aw_icmp_ge (tgt := 97) K dX7_ringOf_11 (by decide) (fun b11 => ?_) (fun b11 => ?_)
  · refine aw_il3 K dX7_ringOf_97 ?_
    refine aw_iret K rfl dX7_ringOf_98 ?_
    exact ⟨rfl, rfl⟩
  · exact absurd (by rw [F.2.2.1]; decide) b11

set_option maxHeartbeats 4000000 in
set_option maxRecDepth 100000 in
theorem uX7_ring (l : Launch) (g : Geo) (sta : Nat → Nat) (h : HS) (a b : Int32) (F : MF0 h) : CT (wM l g sta) 6 mX7_ring [.ref (g.2.1 0), .int a, .int b] h (DR (if a = 0 ∧ 0 ≤ b ∧ b ≤ 3 then 0 else -1)) := by
  refine CT.at [some (.ref (g.2.1 0)), some (.int a), some (.int b)] 0 rfl (by decide) (Nat.le_of_ble_eq_true rfl) (fun k K => ?_)
  refine aw_al0 K dX7_ring_0 ?_
  refine aw_il1 K dX7_ring_1 ?_
  refine aw_callV_I K (tX7_areNames l g sta _ _) rfl (by decide) fX7_areNames lX7_223 dX7_ring_2 rfl clsX7 rfl (Nat.le_of_ble_eq_true rfl) ?_
  rw [mf_hp F]
  refine aw_if_eq (tgt := 29) K dX7_ring_5 (by decide) (fun b5 => ?_) (fun b5 => ?_)
  · refine aw_iconst (v := (-1)) K dX7_ring_29 (by decide) ?_
    refine aw_iret K rfl dX7_ring_30 ?_
    first
      | exact congrArg some (congrArg Value.int (if_neg (fun q => bI_0.mp b17 q.2)).symm)
      | exact congrArg some (congrArg Value.int (if_neg (fun q => bI_0.mp b5 q.1)).symm)
      | exact congrArg some (congrArg Value.int (if_pos ⟨bI_1.mp b5, bI_1.mp b17⟩).symm)
  · refine aw_il2 K dX7_ring_8 ?_
    refine aw_i2l K dX7_ring_9 ?_
    refine aw_lconst (v := 0) K dX7_ring_10 (by decide) ?_
    refine aw_ldc2 K qX7_119 dX7_ring_11 ?_
    refine aw_callS_I K (in32 l g sta _ _ (0) (3) (by first | rfl | decide) (by first | rfl | decide)) rfl (by decide) fX7_in lX7_102 dX7_ring_14 rfl (Nat.le_of_ble_eq_true rfl) ?_
    refine aw_if_eq (tgt := 29) K dX7_ring_17 (by decide) (fun b17 => ?_) (fun b17 => ?_)
    · refine aw_iconst (v := (-1)) K dX7_ring_29 (by decide) ?_
      refine aw_iret K rfl dX7_ring_30 ?_
      first
        | exact congrArg some (congrArg Value.int (if_neg (fun q => bI_0.mp b17 q.2)).symm)
        | exact congrArg some (congrArg Value.int (if_neg (fun q => bI_0.mp b5 q.1)).symm)
        | exact congrArg some (congrArg Value.int (if_pos ⟨bI_1.mp b5, bI_1.mp b17⟩).symm)
    · refine aw_al0 K dX7_ring_20 ?_
      refine aw_il1 K dX7_ring_21 ?_
      refine aw_il2 K dX7_ring_22 ?_
      refine aw_callV_I K (uX7_ringOf l g sta _ _ _ F) rfl (by decide) fX7_ringOf lX7_293 dX7_ring_23 rfl clsX7 rfl (Nat.le_of_ble_eq_true rfl) ?_
      refine aw_goto (tgt := 30) K dX7_ring_26 (by decide) ?_
      refine aw_iret K rfl dX7_ring_30 ?_
      first
        | exact congrArg some (congrArg Value.int (if_neg (fun q => bI_0.mp b17 q.2)).symm)
        | exact congrArg some (congrArg Value.int (if_neg (fun q => bI_0.mp b5 q.1)).symm)
        | exact congrArg some (congrArg Value.int (if_pos ⟨bI_1.mp b5, bI_1.mp b17⟩).symm)

set_option maxHeartbeats 4000000 in
set_option maxRecDepth 100000 in
theorem uX7_ways (l : Launch) (g : Geo) (sta : Nat → Nat) (h : HS) : CT (wM l g sta) 1 mX7_ways [.int 0, .int 0] h (DL 1 h) := by
  refine CT.at [some (.int 0), some (.int 0), none, none, none] 3 rfl (by decide) (Nat.le_of_ble_eq_true rfl) (fun k K => ?_)
  refine aw_il1 K dX7_ways_0 ?_
  refine aw_if_lt (tgt := 9) K dX7_ways_1 (by decide) (fun b1 => ?_) (fun b1 => ?_)
  · exact absurd b1 (by decide)
  · refine aw_il1 K dX7_ways_4 ?_
    refine aw_il0 K dX7_ways_5 ?_
    refine aw_icmp_le (tgt := 11) K dX7_ways_6 (by decide) (fun b6 => ?_) (fun b6 => ?_)
    · refine aw_lconst (v := 1) K dX7_ways_11 (by decide) ?_
      refine aw_ls2 K dX7_ways_12 (by decide) rfl ?_
      refine aw_iconst (v := 1) K dX7_ways_13 (by decide) ?_
      refine aw_is4 K dX7_ways_14 (by decide) rfl ?_
      refine aw_il4 K dX7_ways_16 ?_
      refine aw_il1 K dX7_ways_18 ?_
      refine aw_icmp_gt (tgt := 42) K dX7_ways_19 (by decide) (fun b19 => ?_) (fun b19 => ?_)
      · refine aw_ll2 K dX7_ways_42 ?_
        refine aw_lret K rfl dX7_ways_43 ?_
        exact ⟨rfl, rfl⟩
      · exact absurd (by decide) b19
    · exact absurd (by decide) b6

set_option maxHeartbeats 4000000 in
set_option maxRecDepth 100000 in
theorem uX7_common (l : Launch) (g : Geo) (sta : Nat → Nat) (h : HS) : CT (wM l g sta) 1 mX7_common [.long 1, .long 1] h (DL 1 h) := by
  refine CT.at [some (.long 1), none, some (.long 1), none, none, none, none, none, none, none] 6 rfl (by decide) (Nat.le_of_ble_eq_true rfl) (fun k K => ?_)
  refine aw_ll0 K dX7_common_0 ?_
  refine aw_ls4 K dX7_common_1 (by decide) rfl ?_
  refine aw_ll2 K dX7_common_3 ?_
  refine aw_ls6 K dX7_common_4 (by decide) rfl ?_
  refine aw_ll6 K dX7_common_6 ?_
  refine aw_lconst (v := 0) K dX7_common_8 (by decide) ?_
  refine aw_lcmp K dX7_common_9 ?_
  refine aw_if_eq (tgt := 31) K dX7_common_10 (by decide) (fun b10 => ?_) (fun b10 => ?_)
  · exact absurd b10 (by decide)
  · refine aw_ll4 K dX7_common_13 ?_
    refine aw_ll6 K dX7_common_15 ?_
    refine aw_lrem K dX7_common_17 (by decide) ?_
    refine aw_ls8 K dX7_common_18 (by decide) rfl ?_
    refine aw_ll6 K dX7_common_20 ?_
    refine aw_ls4 K dX7_common_22 (by decide) rfl ?_
    refine aw_ll8 K dX7_common_24 ?_
    refine aw_ls6 K dX7_common_26 (by decide) rfl ?_
    refine aw_goto (tgt := 6) K dX7_common_28 (by decide) ?_
    refine aw_ll6 K dX7_common_6 ?_
    refine aw_lconst (v := 0) K dX7_common_8 (by decide) ?_
    refine aw_lcmp K dX7_common_9 ?_
    refine aw_if_eq (tgt := 31) K dX7_common_10 (by decide) (fun b10 => ?_) (fun b10 => ?_)
    · refine aw_ll4 K dX7_common_31 ?_
      refine aw_lret K rfl dX7_common_33 ?_
      exact ⟨rfl, rfl⟩
    · exact absurd (by decide) b10

set_option maxHeartbeats 4000000 in
set_option maxRecDepth 100000 in
theorem uX7_findOdds (l : Launch) (g : Geo) (sta : Nat → Nat) (h : HS) (F : MF0 h) : CT (wM l g sta) 3 mX7_findOdds [.ref (g.2.1 0), .int 0] h (fun o h' => o = none ∧ h'.2 0 38 = 1 ∧ h'.2 0 39 = 1) := by
  refine CT.at [some (.ref (g.2.1 0)), some (.int 0), none, none, none, none, none, none] 6 rfl (by decide) (Nat.le_of_ble_eq_true rfl) (fun k K => ?_)
  refine aw_al0 K dX7_findOdds_0 ?_
  refine aw_il1 K dX7_findOdds_1 ?_
  refine aw_iconst (v := 0) K dX7_findOdds_2 (by decide) ?_
  refine aw_callV_I K (uX7_ringOf l g sta _ _ _ F) rfl (by decide) fX7_ringOf lX7_293 dX7_findOdds_3 rfl clsX7 rfl (Nat.le_of_ble_eq_true rfl) ?_
  refine aw_is2 K dX7_findOdds_6 (by decide) rfl ?_
  refine aw_al0 K dX7_findOdds_7 ?_
  refine aw_il1 K dX7_findOdds_8 ?_
  refine aw_iconst (v := 1) K dX7_findOdds_9 (by decide) ?_
  refine aw_callV_I K (uX7_ringOf l g sta _ _ _ F) rfl (by decide) fX7_ringOf lX7_293 dX7_findOdds_10 rfl clsX7 rfl (Nat.le_of_ble_eq_true rfl) ?_
  refine aw_is3 K dX7_findOdds_13 (by decide) rfl ?_
  refine aw_al0 K dX7_findOdds_14 ?_
  refine aw_il1 K dX7_findOdds_15 ?_
  refine aw_iconst (v := 2) K dX7_findOdds_16 (by decide) ?_
  refine aw_callV_I K (uX7_ringOf l g sta _ _ _ F) rfl (by decide) fX7_ringOf lX7_293 dX7_findOdds_17 rfl clsX7 rfl (Nat.le_of_ble_eq_true rfl) ?_
  refine aw_is4 K dX7_findOdds_20 (by decide) rfl ?_
  refine aw_al0 K dX7_findOdds_22 ?_
  refine aw_il1 K dX7_findOdds_23 ?_
  refine aw_iconst (v := 3) K dX7_findOdds_24 (by decide) ?_
  refine aw_callV_I K (uX7_ringOf l g sta _ _ _ F) rfl (by decide) fX7_ringOf lX7_293 dX7_findOdds_25 rfl clsX7 rfl (Nat.le_of_ble_eq_true rfl) ?_
  refine aw_is5 K dX7_findOdds_28 (by decide) rfl ?_
  refine aw_al0 K dX7_findOdds_30 ?_
  refine aw_lconst (v := 0) K dX7_findOdds_31 (by decide) ?_
  refine aw_putL K gX7_296 fpX7_38 dX7_findOdds_32 rfl rfl ?_
  refine aw_al0 K dX7_findOdds_35 ?_
  refine aw_il2 K dX7_findOdds_36 ?_
  refine aw_il4 K dX7_findOdds_37 ?_
  refine aw_callS_L K (uX7_ways l g sta _) rfl (by decide) fX7_ways lX7_300 dX7_findOdds_39 rfl (Nat.le_of_ble_eq_true rfl) ?_
  refine aw_putL K gX7_304 fpX7_39 dX7_findOdds_42 rfl rfl ?_
  refine aw_il5 K dX7_findOdds_45 ?_
  refine aw_is6 K dX7_findOdds_47 (by decide) rfl ?_
  refine aw_il6 K dX7_findOdds_49 ?_
  refine aw_il3 K dX7_findOdds_51 ?_
  refine aw_icmp_gt (tgt := 88) K dX7_findOdds_52 (by decide) (fun b52 => ?_) (fun b52 => ?_)
  · exact absurd b52 (by decide)
  · refine aw_al0 K dX7_findOdds_55 ?_
    refine aw_dup K dX7_findOdds_56 rfl ?_
    refine aw_getL K gX7_296 dX7_findOdds_57 rfl rfl ?_
    refine aw_il3 K dX7_findOdds_60 ?_
    refine aw_il6 K dX7_findOdds_61 ?_
    refine aw_callS_L K (uX7_ways l g sta _) rfl (by decide) fX7_ways lX7_300 dX7_findOdds_63 rfl (Nat.le_of_ble_eq_true rfl) ?_
    refine aw_il2 K dX7_findOdds_66 ?_
    refine aw_il3 K dX7_findOdds_67 ?_
    refine aw_isub K dX7_findOdds_68 ?_
    refine aw_il4 K dX7_findOdds_69 ?_
    refine aw_il6 K dX7_findOdds_71 ?_
    refine aw_isub K dX7_findOdds_73 ?_
    rw [show (0 : Int32) - 0 = 0 from by decide]
    refine aw_callS_L K (uX7_ways l g sta _) rfl (by decide) fX7_ways lX7_300 dX7_findOdds_74 rfl (Nat.le_of_ble_eq_true rfl) ?_
    refine aw_lmul K dX7_findOdds_77 ?_
    refine aw_ladd K dX7_findOdds_78 ?_
    refine aw_putL K gX7_296 fpX7_38 dX7_findOdds_79 rfl rfl ?_
    refine aw_ii6 (v := _ + 1) K dX7_findOdds_82 rfl (by decide) rfl ?_
    refine aw_goto (tgt := 49) K dX7_findOdds_85 (by decide) ?_
    refine aw_il6 K dX7_findOdds_49 ?_
    refine aw_il3 K dX7_findOdds_51 ?_
    refine aw_icmp_gt (tgt := 88) K dX7_findOdds_52 (by decide) (fun b52 => ?_) (fun b52 => ?_)
    · refine aw_al0 K dX7_findOdds_88 ?_
      refine aw_getL K gX7_296 dX7_findOdds_89 rfl rfl ?_
      refine aw_al0 K dX7_findOdds_92 ?_
      refine aw_getL K gX7_304 dX7_findOdds_93 rfl rfl ?_
      have e1 : ∀ x : HS, (setL (setL (setL x 0 38 0) 0 39 1) 0 38 (0 + 1 * 1)).2 0 38 = 1 := fun x => by simp [rdL]
      have e2 : ∀ x : HS, (setL (setL (setL x 0 38 0) 0 39 1) 0 38 (0 + 1 * 1)).2 0 39 = 1 := fun x => by simp [rdL]
      try rw [show (setL (setL h 0 38 0) 0 39 1).2 0 38 = 0 from by simp [rdL]]
      rw [e1, e2]
      refine aw_callS_L K (uX7_common l g sta _) rfl (by decide) fX7_common lX7_271 dX7_findOdds_96 rfl (Nat.le_of_ble_eq_true rfl) ?_
      refine aw_ls6 K dX7_findOdds_99 (by decide) rfl ?_
      refine aw_al0 K dX7_findOdds_101 ?_
      refine aw_dup K dX7_findOdds_102 rfl ?_
      refine aw_getL K gX7_296 dX7_findOdds_103 rfl rfl ?_
      refine aw_ll6 K dX7_findOdds_106 ?_
      refine aw_ldiv K dX7_findOdds_108 (by decide) ?_
      refine aw_putL K gX7_296 fpX7_38 dX7_findOdds_109 rfl rfl ?_
      refine aw_al0 K dX7_findOdds_112 ?_
      refine aw_dup K dX7_findOdds_113 rfl ?_
      refine aw_getL K gX7_304 dX7_findOdds_114 rfl rfl ?_
      refine aw_ll6 K dX7_findOdds_117 ?_
      refine aw_ldiv K dX7_findOdds_119 (by decide) ?_
      refine aw_putL K gX7_304 fpX7_39 dX7_findOdds_120 rfl rfl ?_
      refine aw_vret K rfl dX7_findOdds_123 ?_
      refine ⟨rfl, ?_, ?_⟩
      · simp [rdL]
      · simp [rdL]
    · exact absurd (by decide) b52

/-- the first n places of r over f -/
def prf (f r : Nat → Int32) (n : Nat) : Nat → Int32 := fun j => if j < n then r j else f j
theorem prf_0 (f r : Nat → Int32) : prf f r 0 = f := by funext j; simp [prf]
theorem prf_s {f r : Nat → Int32} {i : Nat} {v : Int32} (hv : v = r i) : upd (prf f r i) i v = prf f r (i + 1) := by
  funext j
  by_cases h1 : j = i
  · subst h1; simp [upd, prf, hv]
  · by_cases h2 : j < i
    · simp [upd, prf, h1, h2, show j < i + 1 by omega]
    · simp [upd, prf, h1, h2, show ¬ j < i + 1 by omega]
theorem setR_comm {h : HS} {a b : Nat} {f f' : Nat → Int32} (hab : a ≠ b) : setR (setR h a f) b f' = setR (setR h b f') a f := by
  simp only [setR]
  congr 1
  funext x
  by_cases ha : x = a
  · subst ha; simp [hab]
  · by_cases hb : x = b
    · subst hb; simp [ha]
    · simp [ha, hb]
theorem setI_comm {h : HS} {a b j : Nat} {f : Nat → Int32} {v : Int32} (hab : a ≠ b) : setI (setR h a f) b j v = setR (setI h b j v) a f := by
  unfold setI
  rw [setR_comm hab]
  simp [rdR, Ne.symm hab]
def FR (h : HS) (i : Nat) : HS := setR (setR h 13 (fil (h.1 13) i 0)) 12 (prf (h.1 12) aw_r0 i)
theorem FR_0 (h : HS) : FR h 0 = h := by
  unfold FR
  rw [fil_0, prf_0, setR_id, setR_id]
theorem FR_s (h : HS) (i : Nat) (v : Int32) (hv : v = aw_r0 i) : setI (setI (FR h i) 13 i (vp_nar .boolean 0)) 12 i v = FR h (i + 1) := by
  have e : vp_nar .boolean 0 = 0 := rfl
  rw [e]
  unfold FR
  rw [setI_comm (by decide), setI_setR, setI_setR, fil_s, prf_s hv]
set_option maxHeartbeats 4000000 in
set_option maxRecDepth 100000 in
theorem ul_firstRules {l : Launch} {g : Geo} {sta : Nat → Nat} {P : Option Value → HS → Prop} {d : Nat} {k : KT} (K : AOK (wM l g sta) mX7_firstRules k) (h : HS) (hP : P none (FR h 10)) :
    ∀ n i : Nat, i ≤ 10 → 10 - i < n → AW (wM l g sta) P d mX7_firstRules k 2 [some (.ref (g.2.1 0)), some (.int (nI i))] [] (FR h i) := by
  intro n
  induction n with
  | zero => intro i h1 h2; omega
  | succ n ih =>
    intro i h1 h2
    refine aw_il1 K dX7_firstRules_2 ?_
    refine aw_bipush (v := 10) K dX7_firstRules_3 (by decide) ?_
    refine aw_icmp_ge (tgt := 100) K dX7_firstRules_5 (by decide) (fun b5 => ?_) (fun b5 => ?_)
    · obtain rfl : i = 10 := by
        have := (nI_leI (a := 10) (by decide) (by omega : i < 2 ^ 31)).mp b5
        omega
      refine aw_vret K rfl dX7_firstRules_100 ?_
      exact hP
    · have hlt : i < 10 := by
        rcases Nat.lt_or_ge i 10 with q | q
        · exact q
        · exact absurd (nI_le (a := 10) q (by omega)) b5
      refine aw_al0 K dX7_firstRules_8 ?_
      refine aw_getR K gX7_47 dX7_firstRules_9 rfl rfl ?_
      refine aw_il1 K dX7_firstRules_12 ?_
      refine aw_iconst (v := 0) K dX7_firstRules_13 (by decide) ?_
      refine aw_zast K dX7_firstRules_14 rfl (vp_in_nI hlt (by decide)) ?_
      refine aw_al0 K dX7_firstRules_15 ?_
      refine aw_getR K gX7_44 dX7_firstRules_16 rfl rfl ?_
      refine aw_il1 K dX7_firstRules_19 ?_
      refine aw_il1 K dX7_firstRules_20 ?_
      refine aw_if_eq (tgt := 36) K dX7_firstRules_21 (by decide) (fun b21 => ?_) (fun b21 => ?_)
      · refine aw_bipush (v := 100) K dX7_firstRules_36 (by decide) ?_
        refine aw_goto (tgt := 93) K dX7_firstRules_38 (by decide) ?_
        refine aw_iast K dX7_firstRules_93 rfl (vp_in_nI hlt (by decide)) ?_
        refine aw_ii1 (v := _ + 1) K dX7_firstRules_94 rfl (by decide) rfl ?_
        refine aw_goto (tgt := 2) K dX7_firstRules_97 (by decide) ?_
        rw [nI_1, nI_clamp (by omega), FR_s]
        · exact ih (i + 1) (by omega) (by omega)
        · rcases (show i = 0 ∨ i = 1 ∨ i = 2 ∨ i = 3 ∨ i = 4 ∨ i = 5 ∨ i = 6 ∨ i = 7 ∨ i = 8 ∨ i = 9 by omega) with rfl | rfl | rfl | rfl | rfl | rfl | rfl | rfl | rfl | rfl <;> first | rfl | exact absurd b21 (by decide) | exact absurd b27 (by decide) | exact absurd b33 (by decide) | exact absurd b43 (by decide) | exact absurd b53 (by decide) | exact absurd b63 (by decide) | exact absurd b72 (by decide) | exact absurd b83 (by decide) | exact absurd (by decide) b21 | exact absurd (by decide) b27 | exact absurd (by decide) b33 | exact absurd (by decide) b43 | exact absurd (by decide) b53 | exact absurd (by decide) b63 | exact absurd (by decide) b72 | exact absurd (by decide) b83
      · refine aw_il1 K dX7_firstRules_24 ?_
        refine aw_bipush (v := 6) K dX7_firstRules_25 (by decide) ?_
        refine aw_icmp_eq (tgt := 36) K dX7_firstRules_27 (by decide) (fun b27 => ?_) (fun b27 => ?_)
        · refine aw_bipush (v := 100) K dX7_firstRules_36 (by decide) ?_
          refine aw_goto (tgt := 93) K dX7_firstRules_38 (by decide) ?_
          refine aw_iast K dX7_firstRules_93 rfl (vp_in_nI hlt (by decide)) ?_
          refine aw_ii1 (v := _ + 1) K dX7_firstRules_94 rfl (by decide) rfl ?_
          refine aw_goto (tgt := 2) K dX7_firstRules_97 (by decide) ?_
          rw [nI_1, nI_clamp (by omega), FR_s]
          · exact ih (i + 1) (by omega) (by omega)
          · rcases (show i = 0 ∨ i = 1 ∨ i = 2 ∨ i = 3 ∨ i = 4 ∨ i = 5 ∨ i = 6 ∨ i = 7 ∨ i = 8 ∨ i = 9 by omega) with rfl | rfl | rfl | rfl | rfl | rfl | rfl | rfl | rfl | rfl <;> first | rfl | exact absurd b21 (by decide) | exact absurd b27 (by decide) | exact absurd b33 (by decide) | exact absurd b43 (by decide) | exact absurd b53 (by decide) | exact absurd b63 (by decide) | exact absurd b72 (by decide) | exact absurd b83 (by decide) | exact absurd (by decide) b21 | exact absurd (by decide) b27 | exact absurd (by decide) b33 | exact absurd (by decide) b43 | exact absurd (by decide) b53 | exact absurd (by decide) b63 | exact absurd (by decide) b72 | exact absurd (by decide) b83
        · refine aw_il1 K dX7_firstRules_30 ?_
          refine aw_bipush (v := 8) K dX7_firstRules_31 (by decide) ?_
          refine aw_icmp_ne (tgt := 41) K dX7_firstRules_33 (by decide) (fun b33 => ?_) (fun b33 => ?_)
          · refine aw_il1 K dX7_firstRules_41 ?_
            refine aw_iconst (v := 1) K dX7_firstRules_42 (by decide) ?_
            refine aw_icmp_ne (tgt := 51) K dX7_firstRules_43 (by decide) (fun b43 => ?_) (fun b43 => ?_)
            · refine aw_il1 K dX7_firstRules_51 ?_
              refine aw_iconst (v := 2) K dX7_firstRules_52 (by decide) ?_
              refine aw_icmp_ne (tgt := 61) K dX7_firstRules_53 (by decide) (fun b53 => ?_) (fun b53 => ?_)
              · refine aw_il1 K dX7_firstRules_61 ?_
                refine aw_iconst (v := 3) K dX7_firstRules_62 (by decide) ?_
                refine aw_icmp_ne (tgt := 70) K dX7_firstRules_63 (by decide) (fun b63 => ?_) (fun b63 => ?_)
                · refine aw_il1 K dX7_firstRules_70 ?_
                  refine aw_iconst (v := 5) K dX7_firstRules_71 (by decide) ?_
                  refine aw_icmp_ne (tgt := 80) K dX7_firstRules_72 (by decide) (fun b72 => ?_) (fun b72 => ?_)
                  · refine aw_il1 K dX7_firstRules_80 ?_
                    refine aw_bipush (v := 9) K dX7_firstRules_81 (by decide) ?_
                    refine aw_icmp_ne (tgt := 91) K dX7_firstRules_83 (by decide) (fun b83 => ?_) (fun b83 => ?_)
                    · refine aw_bipush (v := 10) K dX7_firstRules_91 (by decide) ?_
                      refine aw_iast K dX7_firstRules_93 rfl (vp_in_nI hlt (by decide)) ?_
                      refine aw_ii1 (v := _ + 1) K dX7_firstRules_94 rfl (by decide) rfl ?_
                      refine aw_goto (tgt := 2) K dX7_firstRules_97 (by decide) ?_
                      rw [nI_1, nI_clamp (by omega), FR_s]
                      · exact ih (i + 1) (by omega) (by omega)
                      · rcases (show i = 0 ∨ i = 1 ∨ i = 2 ∨ i = 3 ∨ i = 4 ∨ i = 5 ∨ i = 6 ∨ i = 7 ∨ i = 8 ∨ i = 9 by omega) with rfl | rfl | rfl | rfl | rfl | rfl | rfl | rfl | rfl | rfl <;> first | rfl | exact absurd b21 (by decide) | exact absurd b27 (by decide) | exact absurd b33 (by decide) | exact absurd b43 (by decide) | exact absurd b53 (by decide) | exact absurd b63 (by decide) | exact absurd b72 (by decide) | exact absurd b83 (by decide) | exact absurd (by decide) b21 | exact absurd (by decide) b27 | exact absurd (by decide) b33 | exact absurd (by decide) b43 | exact absurd (by decide) b53 | exact absurd (by decide) b63 | exact absurd (by decide) b72 | exact absurd (by decide) b83
                    · refine aw_bipush (v := 8) K dX7_firstRules_86 (by decide) ?_
                      refine aw_goto (tgt := 93) K dX7_firstRules_88 (by decide) ?_
                      refine aw_iast K dX7_firstRules_93 rfl (vp_in_nI hlt (by decide)) ?_
                      refine aw_ii1 (v := _ + 1) K dX7_firstRules_94 rfl (by decide) rfl ?_
                      refine aw_goto (tgt := 2) K dX7_firstRules_97 (by decide) ?_
                      rw [nI_1, nI_clamp (by omega), FR_s]
                      · exact ih (i + 1) (by omega) (by omega)
                      · rcases (show i = 0 ∨ i = 1 ∨ i = 2 ∨ i = 3 ∨ i = 4 ∨ i = 5 ∨ i = 6 ∨ i = 7 ∨ i = 8 ∨ i = 9 by omega) with rfl | rfl | rfl | rfl | rfl | rfl | rfl | rfl | rfl | rfl <;> first | rfl | exact absurd b21 (by decide) | exact absurd b27 (by decide) | exact absurd b33 (by decide) | exact absurd b43 (by decide) | exact absurd b53 (by decide) | exact absurd b63 (by decide) | exact absurd b72 (by decide) | exact absurd b83 (by decide) | exact absurd (by decide) b21 | exact absurd (by decide) b27 | exact absurd (by decide) b33 | exact absurd (by decide) b43 | exact absurd (by decide) b53 | exact absurd (by decide) b63 | exact absurd (by decide) b72 | exact absurd (by decide) b83
                  · refine aw_bipush (v := 20) K dX7_firstRules_75 (by decide) ?_
                    refine aw_goto (tgt := 93) K dX7_firstRules_77 (by decide) ?_
                    refine aw_iast K dX7_firstRules_93 rfl (vp_in_nI hlt (by decide)) ?_
                    refine aw_ii1 (v := _ + 1) K dX7_firstRules_94 rfl (by decide) rfl ?_
                    refine aw_goto (tgt := 2) K dX7_firstRules_97 (by decide) ?_
                    rw [nI_1, nI_clamp (by omega), FR_s]
                    · exact ih (i + 1) (by omega) (by omega)
                    · rcases (show i = 0 ∨ i = 1 ∨ i = 2 ∨ i = 3 ∨ i = 4 ∨ i = 5 ∨ i = 6 ∨ i = 7 ∨ i = 8 ∨ i = 9 by omega) with rfl | rfl | rfl | rfl | rfl | rfl | rfl | rfl | rfl | rfl <;> first | rfl | exact absurd b21 (by decide) | exact absurd b27 (by decide) | exact absurd b33 (by decide) | exact absurd b43 (by decide) | exact absurd b53 (by decide) | exact absurd b63 (by decide) | exact absurd b72 (by decide) | exact absurd b83 (by decide) | exact absurd (by decide) b21 | exact absurd (by decide) b27 | exact absurd (by decide) b33 | exact absurd (by decide) b43 | exact absurd (by decide) b53 | exact absurd (by decide) b63 | exact absurd (by decide) b72 | exact absurd (by decide) b83
                · refine aw_iconst (v := 0) K dX7_firstRules_66 (by decide) ?_
                  refine aw_goto (tgt := 93) K dX7_firstRules_67 (by decide) ?_
                  refine aw_iast K dX7_firstRules_93 rfl (vp_in_nI hlt (by decide)) ?_
                  refine aw_ii1 (v := _ + 1) K dX7_firstRules_94 rfl (by decide) rfl ?_
                  refine aw_goto (tgt := 2) K dX7_firstRules_97 (by decide) ?_
                  rw [nI_1, nI_clamp (by omega), FR_s]
                  · exact ih (i + 1) (by omega) (by omega)
                  · rcases (show i = 0 ∨ i = 1 ∨ i = 2 ∨ i = 3 ∨ i = 4 ∨ i = 5 ∨ i = 6 ∨ i = 7 ∨ i = 8 ∨ i = 9 by omega) with rfl | rfl | rfl | rfl | rfl | rfl | rfl | rfl | rfl | rfl <;> first | rfl | exact absurd b21 (by decide) | exact absurd b27 (by decide) | exact absurd b33 (by decide) | exact absurd b43 (by decide) | exact absurd b53 (by decide) | exact absurd b63 (by decide) | exact absurd b72 (by decide) | exact absurd b83 (by decide) | exact absurd (by decide) b21 | exact absurd (by decide) b27 | exact absurd (by decide) b33 | exact absurd (by decide) b43 | exact absurd (by decide) b53 | exact absurd (by decide) b63 | exact absurd (by decide) b72 | exact absurd (by decide) b83
              · refine aw_bipush (v := 50) K dX7_firstRules_56 (by decide) ?_
                refine aw_goto (tgt := 93) K dX7_firstRules_58 (by decide) ?_
                refine aw_iast K dX7_firstRules_93 rfl (vp_in_nI hlt (by decide)) ?_
                refine aw_ii1 (v := _ + 1) K dX7_firstRules_94 rfl (by decide) rfl ?_
                refine aw_goto (tgt := 2) K dX7_firstRules_97 (by decide) ?_
                rw [nI_1, nI_clamp (by omega), FR_s]
                · exact ih (i + 1) (by omega) (by omega)
                · rcases (show i = 0 ∨ i = 1 ∨ i = 2 ∨ i = 3 ∨ i = 4 ∨ i = 5 ∨ i = 6 ∨ i = 7 ∨ i = 8 ∨ i = 9 by omega) with rfl | rfl | rfl | rfl | rfl | rfl | rfl | rfl | rfl | rfl <;> first | rfl | exact absurd b21 (by decide) | exact absurd b27 (by decide) | exact absurd b33 (by decide) | exact absurd b43 (by decide) | exact absurd b53 (by decide) | exact absurd b63 (by decide) | exact absurd b72 (by decide) | exact absurd b83 (by decide) | exact absurd (by decide) b21 | exact absurd (by decide) b27 | exact absurd (by decide) b33 | exact absurd (by decide) b43 | exact absurd (by decide) b53 | exact absurd (by decide) b63 | exact absurd (by decide) b72 | exact absurd (by decide) b83
            · refine aw_bipush (v := 80) K dX7_firstRules_46 (by decide) ?_
              refine aw_goto (tgt := 93) K dX7_firstRules_48 (by decide) ?_
              refine aw_iast K dX7_firstRules_93 rfl (vp_in_nI hlt (by decide)) ?_
              refine aw_ii1 (v := _ + 1) K dX7_firstRules_94 rfl (by decide) rfl ?_
              refine aw_goto (tgt := 2) K dX7_firstRules_97 (by decide) ?_
              rw [nI_1, nI_clamp (by omega), FR_s]
              · exact ih (i + 1) (by omega) (by omega)
              · rcases (show i = 0 ∨ i = 1 ∨ i = 2 ∨ i = 3 ∨ i = 4 ∨ i = 5 ∨ i = 6 ∨ i = 7 ∨ i = 8 ∨ i = 9 by omega) with rfl | rfl | rfl | rfl | rfl | rfl | rfl | rfl | rfl | rfl <;> first | rfl | exact absurd b21 (by decide) | exact absurd b27 (by decide) | exact absurd b33 (by decide) | exact absurd b43 (by decide) | exact absurd b53 (by decide) | exact absurd b63 (by decide) | exact absurd b72 (by decide) | exact absurd b83 (by decide) | exact absurd (by decide) b21 | exact absurd (by decide) b27 | exact absurd (by decide) b33 | exact absurd (by decide) b43 | exact absurd (by decide) b53 | exact absurd (by decide) b63 | exact absurd (by decide) b72 | exact absurd (by decide) b83
          · refine aw_bipush (v := 100) K dX7_firstRules_36 (by decide) ?_
            refine aw_goto (tgt := 93) K dX7_firstRules_38 (by decide) ?_
            refine aw_iast K dX7_firstRules_93 rfl (vp_in_nI hlt (by decide)) ?_
            refine aw_ii1 (v := _ + 1) K dX7_firstRules_94 rfl (by decide) rfl ?_
            refine aw_goto (tgt := 2) K dX7_firstRules_97 (by decide) ?_
            rw [nI_1, nI_clamp (by omega), FR_s]
            · exact ih (i + 1) (by omega) (by omega)
            · rcases (show i = 0 ∨ i = 1 ∨ i = 2 ∨ i = 3 ∨ i = 4 ∨ i = 5 ∨ i = 6 ∨ i = 7 ∨ i = 8 ∨ i = 9 by omega) with rfl | rfl | rfl | rfl | rfl | rfl | rfl | rfl | rfl | rfl <;> first | rfl | exact absurd b21 (by decide) | exact absurd b27 (by decide) | exact absurd b33 (by decide) | exact absurd b43 (by decide) | exact absurd b53 (by decide) | exact absurd b63 (by decide) | exact absurd b72 (by decide) | exact absurd b83 (by decide) | exact absurd (by decide) b21 | exact absurd (by decide) b27 | exact absurd (by decide) b33 | exact absurd (by decide) b43 | exact absurd (by decide) b53 | exact absurd (by decide) b63 | exact absurd (by decide) b72 | exact absurd (by decide) b83
set_option maxHeartbeats 4000000 in
set_option maxRecDepth 100000 in
theorem tX7_firstRules (l : Launch) (g : Geo) (sta : Nat → Nat) (h : HS) : CT (wM l g sta) 1 mX7_firstRules [.ref (g.2.1 0)] h (DV (FR h 10)) := by
  refine CT.at [some (.ref (g.2.1 0)), none] 1 rfl (by decide) (Nat.le_of_ble_eq_true rfl) (fun k K => ?_)
  refine aw_iconst (v := 0) K dX7_firstRules_0 (by decide) ?_
  refine aw_is1 K dX7_firstRules_1 (by decide) rfl ?_
  have := ul_firstRules (P := DV (FR h 10)) (d := 1) K h ⟨rfl, rfl⟩ 11 0 (by omega) (by omega)
  rw [FR_0] at this
  exact this
def KR (h : HS) (i : Nat) : HS := setR h 11 (prf (h.1 11) (h.1 12) i)
set_option maxHeartbeats 4000000 in
set_option maxRecDepth 100000 in
theorem ul_keepRules {l : Launch} {g : Geo} {sta : Nat → Nat} {P : Option Value → HS → Prop} {d : Nat} {k : KT} (K : AOK (wM l g sta) mX7_keepRules k) (h : HS) (hP : P none (KR h 10)) :
    ∀ n i : Nat, i ≤ 10 → 10 - i < n → AW (wM l g sta) P d mX7_keepRules k 2 [some (.ref (g.2.1 0)), some (.int (nI i))] [] (KR h i) := by
  intro n
  induction n with
  | zero => intro i h1 h2; omega
  | succ n ih =>
    intro i h1 h2
    refine aw_il1 K dX7_keepRules_2 ?_
    refine aw_bipush (v := 10) K dX7_keepRules_3 (by decide) ?_
    refine aw_icmp_ge (tgt := 26) K dX7_keepRules_5 (by decide) (fun b5 => ?_) (fun b5 => ?_)
    · obtain rfl : i = 10 := by
        have := (nI_leI (a := 10) (by decide) (by omega : i < 2 ^ 31)).mp b5
        omega
      refine aw_vret K rfl dX7_keepRules_26 ?_
      exact hP
    · have hlt : i < 10 := by
        rcases Nat.lt_or_ge i 10 with q | q
        · exact q
        · exact absurd (nI_le (a := 10) q (by omega)) b5
      refine aw_al0 K dX7_keepRules_8 ?_
      refine aw_getR K gX7_41 dX7_keepRules_9 rfl rfl ?_
      refine aw_il1 K dX7_keepRules_12 ?_
      refine aw_al0 K dX7_keepRules_13 ?_
      refine aw_getR K gX7_44 dX7_keepRules_14 rfl rfl ?_
      refine aw_il1 K dX7_keepRules_17 ?_
      refine aw_iald K dX7_keepRules_18 rfl (vp_in_nI hlt (by decide)) ?_
      refine aw_iast K dX7_keepRules_19 rfl (vp_in_nI hlt (by decide)) ?_
      refine aw_ii1 (v := _ + 1) K dX7_keepRules_20 rfl (by decide) rfl ?_
      refine aw_goto (tgt := 2) K dX7_keepRules_23 (by decide) ?_
      rw [nI_1, nI_clamp (by omega)]
      have e : setI (KR h i) 11 i ((KR h i).1 12 i) = KR h (i + 1) := by
        unfold KR
        rw [setI_setR]
        exact congrArg (setR h 11) (prf_s rfl)
      rw [e]
      exact ih (i + 1) (by omega) (by omega)
set_option maxHeartbeats 4000000 in
set_option maxRecDepth 100000 in
theorem tX7_keepRules (l : Launch) (g : Geo) (sta : Nat → Nat) (h : HS) : CT (wM l g sta) 1 mX7_keepRules [.ref (g.2.1 0)] h (DV (KR h 10)) := by
  refine CT.at [some (.ref (g.2.1 0)), none] 1 rfl (by decide) (Nat.le_of_ble_eq_true rfl) (fun k K => ?_)
  refine aw_iconst (v := 0) K dX7_keepRules_0 (by decide) ?_
  refine aw_is1 K dX7_keepRules_1 (by decide) rfl ?_
  have := ul_keepRules (P := DV (KR h 10)) (d := 1) K h ⟨rfl, rfl⟩ 11 0 (by omega) (by omega)
  rw [show KR h 0 = h by unfold KR; rw [prf_0, setR_id]] at this
  exact this
set_option maxHeartbeats 4000000 in
set_option maxRecDepth 100000 in
theorem uX7_odds (l : Launch) (g : Geo) (sta : Nat → Nat) (h : HS) (a b : Int32) (F : MF0 h) : CT (wM l g sta) 6 mX7_odds [.ref (g.2.1 0), .int a, .int b] h ((fun o _ => o = some (.long (if a = 0 ∧ 0 ≤ b ∧ b ≤ 1 then 1 else -1)))) := by
  refine CT.at [some (.ref (g.2.1 0)), some (.int a), some (.int b)] 0 rfl (by decide) (Nat.le_of_ble_eq_true rfl) (fun k K => ?_)
  refine aw_al0 K dX7_odds_0 ?_
  refine aw_il1 K dX7_odds_1 ?_
  refine aw_callV_I K (tX7_areNames l g sta _ _) rfl (by decide) fX7_areNames lX7_223 dX7_odds_2 rfl clsX7 rfl (Nat.le_of_ble_eq_true rfl) ?_
  rw [mf_hp F]
  refine aw_if_eq (tgt := 18) K dX7_odds_5 (by decide) (fun b5 => ?_) (fun b5 => ?_)
  · refine aw_ldc2 K qX7_307 dX7_odds_18 ?_
    refine aw_lret K rfl dX7_odds_21 ?_
    first
      | exact congrArg some (congrArg Value.long (if_neg (fun q => bI_0.mp b15 q.2)).symm)
      | exact congrArg some (congrArg Value.long (if_neg (fun q => bI_0.mp b5 q.1)).symm)
  · have ha := bI_1.mp b5
    refine aw_il2 K dX7_odds_8 ?_
    refine aw_i2l K dX7_odds_9 ?_
    refine aw_lconst (v := 0) K dX7_odds_10 (by decide) ?_
    refine aw_lconst (v := 1) K dX7_odds_11 (by decide) ?_
    refine aw_callS_I K (in32 l g sta _ _ (0) (1) (by first | rfl | decide) (by first | rfl | decide)) rfl (by decide) fX7_in lX7_102 dX7_odds_12 rfl (Nat.le_of_ble_eq_true rfl) ?_
    refine aw_if_ne (tgt := 22) K dX7_odds_15 (by decide) (fun b15 => ?_) (fun b15 => ?_)
    · subst ha
      refine aw_al0 K dX7_odds_22 ?_
      refine aw_il1 K dX7_odds_23 ?_
      refine aw_callV K (uX7_findOdds l g sta _ F) rfl (by decide) fX7_findOdds lX7_309 dX7_odds_24 rfl clsX7 rfl (Nat.le_of_ble_eq_true rfl) (fun o h2 hq => ?_)
      obtain ⟨rfl, q1, q2⟩ := hq
      refine aw_il2 K dX7_odds_27 ?_
      refine aw_if_ne (tgt := 38) K dX7_odds_28 (by decide) (fun b28 => ?_) (fun b28 => ?_)
      · refine aw_al0 K dX7_odds_38 ?_
        refine aw_getL K gX7_304 dX7_odds_39 rfl rfl ?_
        refine aw_lret K rfl dX7_odds_42 ?_
        first
          | exact congrArg some (congrArg Value.long (q1.trans (if_pos ⟨rfl, bI_1.mp b15⟩).symm))
          | exact congrArg some (congrArg Value.long (q2.trans (if_pos ⟨rfl, bI_1.mp b15⟩).symm))
      · refine aw_al0 K dX7_odds_31 ?_
        refine aw_getL K gX7_296 dX7_odds_32 rfl rfl ?_
        refine aw_goto (tgt := 42) K dX7_odds_35 (by decide) ?_
        refine aw_lret K rfl dX7_odds_42 ?_
        first
          | exact congrArg some (congrArg Value.long (q1.trans (if_pos ⟨rfl, bI_1.mp b15⟩).symm))
          | exact congrArg some (congrArg Value.long (q2.trans (if_pos ⟨rfl, bI_1.mp b15⟩).symm))
    · refine aw_ldc2 K qX7_307 dX7_odds_18 ?_
      refine aw_lret K rfl dX7_odds_21 ?_
      first
        | exact congrArg some (congrArg Value.long (if_neg (fun q => bI_0.mp b15 q.2)).symm)
        | exact congrArg some (congrArg Value.long (if_neg (fun q => bI_0.mp b5 q.1)).symm)

set_option maxHeartbeats 4000000 in
set_option maxRecDepth 100000 in
theorem ul_bits0 {l : Launch} {g : Geo} {sta : Nat → Nat} {k : KT} (K : AOK (wM l g sta) mX7_bits k) (h : HS) :
    ∀ n i : Nat, i ≤ 24 → 24 - i < n → AW (wM l g sta) (DI 0 h) 1 mX7_bits k 4 [some (.int 0), some (.int 0), some (.int (nI i))] [] h := by
  intro n
  induction n with
  | zero => intro i h1 h2; omega
  | succ n ih =>
    intro i h1 h2
    refine aw_il2 K dX7_bits_4 ?_
    refine aw_bipush (v := 24) K dX7_bits_5 (by decide) ?_
    refine aw_icmp_ge (tgt := 24) K dX7_bits_7 (by decide) (fun b7 => ?_) (fun b7 => ?_)
    · refine aw_il1 K dX7_bits_24 ?_
      refine aw_iret K rfl dX7_bits_25 ?_
      exact ⟨rfl, rfl⟩
    · refine aw_il1 K dX7_bits_10 ?_
      refine aw_il0 K dX7_bits_11 ?_
      refine aw_il2 K dX7_bits_12 ?_
      refine aw_ishr K dX7_bits_13 ?_
      refine aw_iconst (v := 1) K dX7_bits_14 (by decide) ?_
      refine aw_iand K dX7_bits_15 ?_
      rw [show ∀ x : Int32, ((0 : Int32) >>> x) &&& 1 = 0 from fun x => by simp]
      refine aw_iadd K dX7_bits_16 ?_
      refine aw_is1 K dX7_bits_17 (by decide) rfl ?_
      refine aw_ii2 (v := _ + 1) K dX7_bits_18 rfl (by decide) rfl ?_
      refine aw_goto (tgt := 4) K dX7_bits_21 (by decide) ?_
      rw [nI_1]
      exact ih (i + 1) (by rcases Nat.lt_or_ge i 24 with q | q; exact q; exact absurd (nI_le (a := 24) q (by omega)) b7) (by rcases Nat.lt_or_ge i 24 with q | q; omega; exact absurd (nI_le (a := 24) q (by omega)) b7)
set_option maxHeartbeats 4000000 in
set_option maxRecDepth 100000 in
theorem uX7_bits (l : Launch) (g : Geo) (sta : Nat → Nat) (h : HS) : CT (wM l g sta) 1 mX7_bits [.int 0] h (DI 0 h) := by
  refine CT.at [some (.int 0), none, none] 2 rfl (by decide) (Nat.le_of_ble_eq_true rfl) (fun k K => ?_)
  refine aw_iconst (v := 0) K dX7_bits_0 (by decide) ?_
  refine aw_is1 K dX7_bits_1 (by decide) rfl ?_
  refine aw_iconst (v := 0) K dX7_bits_2 (by decide) ?_
  refine aw_is2 K dX7_bits_3 (by decide) rfl ?_
  exact ul_bits0 K h 25 0 (by omega) (by omega)
set_option maxHeartbeats 4000000 in
set_option maxRecDepth 100000 in
theorem uX7_oddest (l : Launch) (g : Geo) (sta : Nat → Nat) (h : HS) (a : Int32) (F : MF0 h) : CT (wM l g sta) 6 mX7_oddest [.ref (g.2.1 0), .int a] h ((fun o _ => o = some (.long (if 0 ≤ a ∧ a ≤ 2 then -4 else -1)))) := by
  refine CT.at [some (.ref (g.2.1 0)), some (.int a), none, none, none, none, none, none] 6 rfl (by decide) (Nat.le_of_ble_eq_true rfl) (fun k K => ?_)
  refine aw_il1 K dX7_oddest_0 ?_
  refine aw_i2l K dX7_oddest_1 ?_
  refine aw_lconst (v := 0) K dX7_oddest_2 (by decide) ?_
  refine aw_ldc2 K qX7_226 dX7_oddest_3 ?_
  refine aw_callS_I K (in32 l g sta _ _ (0) (2) (by first | rfl | decide) (by first | rfl | decide)) rfl (by decide) fX7_in lX7_102 dX7_oddest_6 rfl (Nat.le_of_ble_eq_true rfl) ?_
  refine aw_if_ne (tgt := 16) K dX7_oddest_9 (by decide) (fun b9 => ?_) (fun b9 => ?_)
  · refine aw_lconst (v := 1) K dX7_oddest_16 (by decide) ?_
    refine aw_ls2 K dX7_oddest_17 (by decide) rfl ?_
    refine aw_lconst (v := 1) K dX7_oddest_18 (by decide) ?_
    refine aw_ls4 K dX7_oddest_19 (by decide) rfl ?_
    refine aw_bipush (v := (-4)) K dX7_oddest_21 (by decide) ?_
    refine aw_is6 K dX7_oddest_23 (by decide) rfl ?_
    refine aw_iconst (v := 0) K dX7_oddest_25 (by decide) ?_
    refine aw_is7 K dX7_oddest_26 (by decide) rfl ?_
    refine aw_il7 K dX7_oddest_28 ?_
    refine aw_iconst (v := 1) K dX7_oddest_30 (by decide) ?_
    refine aw_al0 K dX7_oddest_31 ?_
    refine aw_getI K gX7_98 dX7_oddest_32 rfl rfl ?_
    refine aw_ishl K dX7_oddest_35 ?_
    rw [F.1, show (1 : Int32) <<< ((0 : Int32) &&& 31) = 1 from by decide]
    refine aw_icmp_ge (tgt := 101) K dX7_oddest_36 (by decide) (fun b36 => ?_) (fun b36 => ?_)
    · exact absurd b36 (by decide)
    · refine aw_il7 K dX7_oddest_39 ?_
      refine aw_callS_I K (uX7_bits l g sta _) rfl (by decide) fX7_bits lX7_144 dX7_oddest_41 rfl (Nat.le_of_ble_eq_true rfl) ?_
      refine aw_iconst (v := 3) K dX7_oddest_44 (by decide) ?_
      refine aw_icmp_eq (tgt := 57) K dX7_oddest_45 (by decide) (fun b45 => ?_) (fun b45 => ?_)
      · exact absurd b45 (by decide)
      · refine aw_il7 K dX7_oddest_48 ?_
        refine aw_callS_I K (uX7_bits l g sta _) rfl (by decide) fX7_bits lX7_144 dX7_oddest_50 rfl (Nat.le_of_ble_eq_true rfl) ?_
        refine aw_iconst (v := 4) K dX7_oddest_53 (by decide) ?_
        refine aw_icmp_ne (tgt := 95) K dX7_oddest_54 (by decide) (fun b54 => ?_) (fun b54 => ?_)
        · refine aw_ii7 (v := _ + 1) K dX7_oddest_95 rfl (by decide) rfl ?_
          refine aw_goto (tgt := 28) K dX7_oddest_98 (by decide) ?_
          refine aw_il7 K dX7_oddest_28 ?_
          refine aw_iconst (v := 1) K dX7_oddest_30 (by decide) ?_
          refine aw_al0 K dX7_oddest_31 ?_
          refine aw_getI K gX7_98 dX7_oddest_32 rfl rfl ?_
          refine aw_ishl K dX7_oddest_35 ?_
          rw [F.1, show (1 : Int32) <<< ((0 : Int32) &&& 31) = 1 from by decide]
          refine aw_icmp_ge (tgt := 101) K dX7_oddest_36 (by decide) (fun b36 => ?_) (fun b36 => ?_)
          · refine aw_il6 K dX7_oddest_101 ?_
            refine aw_bipush (v := (-4)) K dX7_oddest_103 (by decide) ?_
            refine aw_icmp_ne (tgt := 114) K dX7_oddest_105 (by decide) (fun b105 => ?_) (fun b105 => ?_)
            · exact absurd rfl b105
            · refine aw_ldc2 K qX7_312 dX7_oddest_108 ?_
              refine aw_goto (tgt := 135) K dX7_oddest_111 (by decide) ?_
              refine aw_lret K rfl dX7_oddest_135 ?_
              exact congrArg some (congrArg Value.long (if_pos (bI_1.mp b9)).symm)
          · exact absurd (by decide) b36
        · exact absurd b54 (by decide)
  · refine aw_ldc2 K qX7_307 dX7_oddest_12 ?_
    refine aw_lret K rfl dX7_oddest_15 ?_
    exact congrArg some (congrArg Value.long (if_neg (bI_0.mp b9)).symm)

set_option maxHeartbeats 4000000 in
set_option maxRecDepth 100000 in
theorem uX7_sellers (l : Launch) (g : Geo) (sta : Nat → Nat) (h : HS) (F : MF0 h) : CT (wM l g sta) 2 mX7_sellers [.ref (g.2.1 0)] h (DI 0 h) := by
  refine CT.at [some (.ref (g.2.1 0)), none, none] 2 rfl (by decide) (Nat.le_of_ble_eq_true rfl) (fun k K => ?_)
  refine aw_iconst (v := 0) K dX7_sellers_0 (by decide) ?_
  refine aw_is1 K dX7_sellers_1 (by decide) rfl ?_
  refine aw_iconst (v := 0) K dX7_sellers_2 (by decide) ?_
  refine aw_is2 K dX7_sellers_3 (by decide) rfl ?_
  refine aw_il2 K dX7_sellers_4 ?_
  refine aw_al0 K dX7_sellers_5 ?_
  refine aw_getI K gX7_98 dX7_sellers_6 rfl rfl ?_
  refine aw_icmp_ge (tgt := 36) K dX7_sellers_9 (by decide) (fun b9 => ?_) (fun b9 => ?_)
  · refine aw_il1 K dX7_sellers_36 ?_
    refine aw_iret K rfl dX7_sellers_37 ?_
    exact ⟨rfl, rfl⟩
  · exact absurd (by rw [F.1]; decide) b9

set_option maxHeartbeats 4000000 in
set_option maxRecDepth 100000 in
theorem uX7_gainOf (l : Launch) (g : Geo) (sta : Nat → Nat) (h : HS) (a b c : Int32) (F : MF0 h) : CT (wM l g sta) 4 mX7_gainOf [.ref (g.2.1 0), .int a, .int b, .int c] h (DR 0) := by
  refine CT.at [some (.ref (g.2.1 0)), some (.int a), some (.int b), some (.int c), none, none, none] 3 rfl (by decide) (Nat.le_of_ble_eq_true rfl) (fun k K => ?_)
  refine aw_al0 K dX7_gainOf_0 ?_
  refine aw_callV_V K (uX7_begins l g sta _ F) rfl (by decide) fX7_begins lX7_214 dX7_gainOf_1 rfl clsX7 rfl (Nat.le_of_ble_eq_true rfl) ?_
  refine aw_iconst (v := 0) K dX7_gainOf_4 (by decide) ?_
  refine aw_is4 K dX7_gainOf_5 (by decide) rfl ?_
  refine aw_iconst (v := 0) K dX7_gainOf_7 (by decide) ?_
  refine aw_is5 K dX7_gainOf_8 (by decide) rfl ?_
  refine aw_il5 K dX7_gainOf_10 ?_
  refine aw_al0 K dX7_gainOf_12 ?_
  refine aw_getI K gX7_98 dX7_gainOf_13 rfl rfl ?_
  refine aw_icmp_ge (tgt := 96) K dX7_gainOf_16 (by decide) (fun b16 => ?_) (fun b16 => ?_)
  · refine aw_il3 K dX7_gainOf_96 ?_
    refine aw_al0 K dX7_gainOf_97 ?_
    refine aw_callV K (uX7_flows l g sta _ (fun j hj => mb_left h j hj)) rfl (by decide) fX7_flows lX7_217 dX7_gainOf_98 rfl clsX7 rfl (Nat.le_of_ble_eq_true rfl) (fun o h2 hq => ?_)
    subst hq
    refine aw_imul K dX7_gainOf_101 ?_
    refine aw_il4 K dX7_gainOf_102 ?_
    refine aw_isub K dX7_gainOf_104 ?_
    refine aw_iret K rfl dX7_gainOf_105 ?_
    show some _ = some _
    simp
  · exact absurd (by rw [(mf_MB F).1]; decide) b16

set_option maxHeartbeats 4000000 in
set_option maxRecDepth 100000 in
theorem uX7_gain (l : Launch) (g : Geo) (sta : Nat → Nat) (h : HS) (a b c : Int32) (F : MF0 h) : CT (wM l g sta) 6 mX7_gain [.ref (g.2.1 0), .int a, .int b, .int c] h (DR (if a = 0 ∧ (1 ≤ b ∧ b ≤ 999) ∧ (0 ≤ c ∧ c ≤ 99) then 0 else -1000000)) := by
  refine CT.at [some (.ref (g.2.1 0)), some (.int a), some (.int b), some (.int c)] 0 rfl (by decide) (Nat.le_of_ble_eq_true rfl) (fun k K => ?_)
  refine aw_al0 K dX7_gain_0 ?_
  refine aw_il1 K dX7_gain_1 ?_
  refine aw_callV_I K (tX7_areNames l g sta _ _) rfl (by decide) fX7_areNames lX7_223 dX7_gain_2 rfl clsX7 rfl (Nat.le_of_ble_eq_true rfl) ?_
  rw [mf_hp F]
  refine aw_if_eq (tgt := 43) K dX7_gain_5 (by decide) (fun b5 => ?_) (fun b5 => ?_)
  · refine aw_ldcw K qX7_320 dX7_gain_43 ?_
    refine aw_iret K rfl dX7_gain_46 ?_
    first
      | exact congrArg some (congrArg Value.int (if_neg (fun q => bI_0.mp b40 q.2.2)).symm)
      | exact congrArg some (congrArg Value.int (if_neg (fun q => bI_0.mp b28 q.2.1)).symm)
      | exact congrArg some (congrArg Value.int (if_neg (fun q => bI_0.mp b5 q.1)).symm)
  · have ha := bI_1.mp b5
    refine aw_il1 K dX7_gain_8 ?_
    refine aw_al0 K dX7_gain_9 ?_
    refine aw_callV_I K (uX7_sellers l g sta _ F) rfl (by decide) fX7_sellers lX7_317 dX7_gain_10 rfl clsX7 rfl (Nat.le_of_ble_eq_true rfl) ?_
    refine aw_iconst (v := (-1)) K dX7_gain_13 (by decide) ?_
    refine aw_ixor K dX7_gain_14 ?_
    refine aw_iand K dX7_gain_15 ?_
    refine aw_if_ne (tgt := 43) K dX7_gain_16 (by decide) (fun b16 => ?_) (fun b16 => ?_)
    · rw [ha] at b16
      exact absurd (by decide) b16
    · refine aw_il2 K dX7_gain_19 ?_
      refine aw_i2l K dX7_gain_20 ?_
      refine aw_lconst (v := 1) K dX7_gain_21 (by decide) ?_
      refine aw_ldc2 K qX7_109 dX7_gain_22 ?_
      refine aw_callS_I K (in32 l g sta _ _ (1) (999) (by first | rfl | decide) (by first | rfl | decide)) rfl (by decide) fX7_in lX7_102 dX7_gain_25 rfl (Nat.le_of_ble_eq_true rfl) ?_
      refine aw_if_eq (tgt := 43) K dX7_gain_28 (by decide) (fun b28 => ?_) (fun b28 => ?_)
      · refine aw_ldcw K qX7_320 dX7_gain_43 ?_
        refine aw_iret K rfl dX7_gain_46 ?_
        first
          | exact congrArg some (congrArg Value.int (if_neg (fun q => bI_0.mp b40 q.2.2)).symm)
          | exact congrArg some (congrArg Value.int (if_neg (fun q => bI_0.mp b28 q.2.1)).symm)
          | exact congrArg some (congrArg Value.int (if_neg (fun q => bI_0.mp b5 q.1)).symm)
      · refine aw_il3 K dX7_gain_31 ?_
        refine aw_i2l K dX7_gain_32 ?_
        refine aw_lconst (v := 0) K dX7_gain_33 (by decide) ?_
        refine aw_ldc2 K qX7_231 dX7_gain_34 ?_
        refine aw_callS_I K (in32 l g sta _ _ (0) (99) (by first | rfl | decide) (by first | rfl | decide)) rfl (by decide) fX7_in lX7_102 dX7_gain_37 rfl (Nat.le_of_ble_eq_true rfl) ?_
        refine aw_if_ne (tgt := 47) K dX7_gain_40 (by decide) (fun b40 => ?_) (fun b40 => ?_)
        · refine aw_al0 K dX7_gain_47 ?_
          refine aw_il1 K dX7_gain_48 ?_
          refine aw_il2 K dX7_gain_49 ?_
          refine aw_il3 K dX7_gain_50 ?_
          refine aw_callV K (uX7_gainOf l g sta _ _ _ _ F) rfl (by decide) fX7_gainOf lX7_321 dX7_gain_51 rfl clsX7 rfl (Nat.le_of_ble_eq_true rfl) (fun o h2 hq => ?_)
          subst hq
          refine aw_iret K rfl dX7_gain_54 ?_
          exact congrArg some (congrArg Value.int ((if_pos ⟨ha, bI_1.mp b28, bI_1.mp b40⟩).symm))
        · refine aw_ldcw K qX7_320 dX7_gain_43 ?_
          refine aw_iret K rfl dX7_gain_46 ?_
          first
            | exact congrArg some (congrArg Value.int (if_neg (fun q => bI_0.mp b40 q.2.2)).symm)
            | exact congrArg some (congrArg Value.int (if_neg (fun q => bI_0.mp b28 q.2.1)).symm)
            | exact congrArg some (congrArg Value.int (if_neg (fun q => bI_0.mp b5 q.1)).symm)

set_option maxHeartbeats 4000000 in
set_option maxRecDepth 100000 in
theorem uX7_best (l : Launch) (g : Geo) (sta : Nat → Nat) (h : HS) (a b c : Int32) (F : MF0 h) : CT (wM l g sta) 6 mX7_best [.ref (g.2.1 0), .int a, .int b, .int c] h (DR (if ((1 ≤ a ∧ a ≤ 999) ∧ (0 ≤ b ∧ b ≤ 99)) ∧ (0 ≤ c ∧ c ≤ 1) then 0 else -1)) := by
  refine CT.at [some (.ref (g.2.1 0)), some (.int a), some (.int b), some (.int c), none, none, none, none, none] 5 rfl (by decide) (Nat.le_of_ble_eq_true rfl) (fun k K => ?_)
  refine aw_il1 K dX7_best_0 ?_
  refine aw_i2l K dX7_best_1 ?_
  refine aw_lconst (v := 1) K dX7_best_2 (by decide) ?_
  refine aw_ldc2 K qX7_109 dX7_best_3 ?_
  refine aw_callS_I K (in32 l g sta _ _ (1) (999) (by first | rfl | decide) (by first | rfl | decide)) rfl (by decide) fX7_in lX7_102 dX7_best_6 rfl (Nat.le_of_ble_eq_true rfl) ?_
  refine aw_if_eq (tgt := 34) K dX7_best_9 (by decide) (fun b9 => ?_) (fun b9 => ?_)
  · refine aw_iconst (v := (-1)) K dX7_best_34 (by decide) ?_
    refine aw_iret K rfl dX7_best_35 ?_
    first
      | exact congrArg some (congrArg Value.int (if_neg (fun q => bI_0.mp b31 q.2)).symm)
      | exact congrArg some (congrArg Value.int (if_neg (fun q => bI_0.mp b21 q.1.2)).symm)
      | exact congrArg some (congrArg Value.int (if_neg (fun q => bI_0.mp b9 q.1.1)).symm)
  · refine aw_il2 K dX7_best_12 ?_
    refine aw_i2l K dX7_best_13 ?_
    refine aw_lconst (v := 0) K dX7_best_14 (by decide) ?_
    refine aw_ldc2 K qX7_231 dX7_best_15 ?_
    refine aw_callS_I K (in32 l g sta _ _ (0) (99) (by first | rfl | decide) (by first | rfl | decide)) rfl (by decide) fX7_in lX7_102 dX7_best_18 rfl (Nat.le_of_ble_eq_true rfl) ?_
    refine aw_if_eq (tgt := 34) K dX7_best_21 (by decide) (fun b21 => ?_) (fun b21 => ?_)
    · refine aw_iconst (v := (-1)) K dX7_best_34 (by decide) ?_
      refine aw_iret K rfl dX7_best_35 ?_
      first
        | exact congrArg some (congrArg Value.int (if_neg (fun q => bI_0.mp b31 q.2)).symm)
        | exact congrArg some (congrArg Value.int (if_neg (fun q => bI_0.mp b21 q.1.2)).symm)
        | exact congrArg some (congrArg Value.int (if_neg (fun q => bI_0.mp b9 q.1.1)).symm)
    · refine aw_il3 K dX7_best_24 ?_
      refine aw_i2l K dX7_best_25 ?_
      refine aw_lconst (v := 0) K dX7_best_26 (by decide) ?_
      refine aw_lconst (v := 1) K dX7_best_27 (by decide) ?_
      refine aw_callS_I K (in32 l g sta _ _ (0) (1) (by first | rfl | decide) (by first | rfl | decide)) rfl (by decide) fX7_in lX7_102 dX7_best_28 rfl (Nat.le_of_ble_eq_true rfl) ?_
      refine aw_if_ne (tgt := 36) K dX7_best_31 (by decide) (fun b31 => ?_) (fun b31 => ?_)
      · refine aw_al0 K dX7_best_36 ?_
        refine aw_callV_I K (uX7_sellers l g sta _ F) rfl (by decide) fX7_sellers lX7_317 dX7_best_37 rfl clsX7 rfl (Nat.le_of_ble_eq_true rfl) ?_
        refine aw_is4 K dX7_best_40 (by decide) rfl ?_
        refine aw_il4 K dX7_best_42 ?_
        refine aw_callS_I K (uX7_bits l g sta _) rfl (by decide) fX7_bits lX7_144 dX7_best_44 rfl (Nat.le_of_ble_eq_true rfl) ?_
        refine aw_bipush (v := 8) K dX7_best_47 (by decide) ?_
        refine aw_icmp_le (tgt := 55) K dX7_best_49 (by decide) (fun b49 => ?_) (fun b49 => ?_)
        · refine aw_iconst (v := 0) K dX7_best_55 (by decide) ?_
          refine aw_is5 K dX7_best_56 (by decide) rfl ?_
          refine aw_iconst (v := 0) K dX7_best_58 (by decide) ?_
          refine aw_is6 K dX7_best_59 (by decide) rfl ?_
          refine aw_iconst (v := 1) K dX7_best_61 (by decide) ?_
          refine aw_is7 K dX7_best_62 (by decide) rfl ?_
          refine aw_il7 K dX7_best_64 ?_
          refine aw_iconst (v := 1) K dX7_best_66 (by decide) ?_
          refine aw_al0 K dX7_best_67 ?_
          refine aw_getI K gX7_98 dX7_best_68 rfl rfl ?_
          refine aw_ishl K dX7_best_71 ?_
          rw [F.1, show (1 : Int32) <<< ((0 : Int32) &&& 31) = 1 from by decide]
          refine aw_icmp_ge (tgt := 133) K dX7_best_72 (by decide) (fun b72 => ?_) (fun b72 => ?_)
          · refine aw_il3 K dX7_best_133 ?_
            refine aw_if_ne (tgt := 142) K dX7_best_134 (by decide) (fun b134 => ?_) (fun b134 => ?_)
            · refine aw_il5 K dX7_best_142 ?_
              refine aw_iret K rfl dX7_best_144 ?_
              exact congrArg some (congrArg Value.int ((if_pos ⟨⟨bI_1.mp b9, bI_1.mp b21⟩, bI_1.mp b31⟩).symm))
            · refine aw_il6 K dX7_best_137 ?_
              refine aw_goto (tgt := 144) K dX7_best_139 (by decide) ?_
              refine aw_iret K rfl dX7_best_144 ?_
              exact congrArg some (congrArg Value.int ((if_pos ⟨⟨bI_1.mp b9, bI_1.mp b21⟩, bI_1.mp b31⟩).symm))
          · exact absurd (by decide) b72
        · exact absurd (by decide) b49
      · refine aw_iconst (v := (-1)) K dX7_best_34 (by decide) ?_
        refine aw_iret K rfl dX7_best_35 ?_
        first
          | exact congrArg some (congrArg Value.int (if_neg (fun q => bI_0.mp b31 q.2)).symm)
          | exact congrArg some (congrArg Value.int (if_neg (fun q => bI_0.mp b21 q.1.2)).symm)
          | exact congrArg some (congrArg Value.int (if_neg (fun q => bI_0.mp b9 q.1.1)).symm)

set_option maxHeartbeats 4000000 in
set_option maxRecDepth 100000 in
theorem ul_msheet {l : Launch} {g : Geo} {sta : Nat → Nat} {k : KT} (K : AOK (wM l g sta) mX7_sheet k) (j : Nat) (hj : j < 4) (b c r : Int32) (hr : r = 1) :
    ∀ (n i : Nat) (h : HS), i ≤ 48 → 48 - i < n → AW (wM l g sta) (DR r) 6 mX7_sheet k 40 [some (.ref (g.2.1 0)), some (.int (nI j)), some (.int b), some (.int c), some (.int (nI i))] [] h := by
  intro n
  induction n with
  | zero => intro i h h1 h2; omega
  | succ n ih =>
    intro i h h1 h2
    refine aw_il4 K dX7_sheet_40 ?_
    refine aw_bipush (v := 48) K dX7_sheet_42 (by decide) ?_
    refine aw_icmp_ge (tgt := 66) K dX7_sheet_44 (by decide) (fun b44 => ?_) (fun b44 => ?_)
    · refine aw_iconst (v := 1) K dX7_sheet_66 (by decide) ?_
      refine aw_iret K rfl dX7_sheet_67 ?_
      exact congrArg some (congrArg Value.int hr.symm)
    · have hlt : i < 48 := by
        rcases Nat.lt_or_ge i 48 with q | q
        · exact q
        · exact absurd (nI_le (a := 48) q (by omega)) b44
      refine aw_al0 K dX7_sheet_47 ?_
      refine aw_getR K gX7_89 dX7_sheet_48 rfl rfl ?_
      refine aw_bipush (v := 48) K dX7_sheet_51 (by decide) ?_
      refine aw_il1 K dX7_sheet_53 ?_
      refine aw_imul K dX7_sheet_54 ?_
      refine aw_il4 K dX7_sheet_55 ?_
      refine aw_iadd K dX7_sheet_57 ?_
      refine aw_iconst (v := 0) K dX7_sheet_58 (by decide) ?_
      rw [show (48 : Int32) = nI 48 from rfl, pk_mul, nI_add]
      refine aw_iast K dX7_sheet_59 rfl (vp_in_nI (by omega) (by decide)) ?_
      refine aw_ii4 (v := _ + 1) K dX7_sheet_60 rfl (by decide) rfl ?_
      refine aw_goto (tgt := 40) K dX7_sheet_63 (by decide) ?_
      rw [nI_1]
      exact ih (i + 1) _ (by omega) (by omega)
set_option maxHeartbeats 4000000 in
set_option maxRecDepth 100000 in
theorem uX7_sheet (l : Launch) (g : Geo) (sta : Nat → Nat) (h : HS) (a b c : Int32) (F : MF0 h) : CT (wM l g sta) 6 mX7_sheet [.ref (g.2.1 0), .int a, .int b, .int c] h (DR (if (0 ≤ a ∧ a ≤ 3) ∧ (0 ≤ b ∧ b ≤ 2) ∧ c ≤ 48 then (if c < 0 then -14 else 1) else -1)) := by
  refine CT.at [some (.ref (g.2.1 0)), some (.int a), some (.int b), some (.int c), none] 1 rfl (by decide) (Nat.le_of_ble_eq_true rfl) (fun k K => ?_)
  refine aw_il1 K dX7_sheet_0 ?_
  refine aw_il2 K dX7_sheet_1 ?_
  refine aw_callS_I K (tX7_isSheet l g sta _ _ _) rfl (by decide) fX7_isSheet lX7_324 dX7_sheet_2 rfl (Nat.le_of_ble_eq_true rfl) ?_
  refine aw_if_eq (tgt := 14) K dX7_sheet_5 (by decide) (fun b5 => ?_) (fun b5 => ?_)
  · refine aw_iconst (v := (-1)) K dX7_sheet_14 (by decide) ?_
    refine aw_iret K rfl dX7_sheet_15 ?_
    first
      | exact congrArg some (congrArg Value.int (if_neg (fun q => b11 q.2.2)).symm)
      | exact congrArg some (congrArg Value.int (if_neg (fun q => bI_0.mp b5 ⟨q.1, q.2.1⟩)).symm)
  · refine aw_il3 K dX7_sheet_8 ?_
    refine aw_bipush (v := 48) K dX7_sheet_9 (by decide) ?_
    refine aw_icmp_le (tgt := 16) K dX7_sheet_11 (by decide) (fun b11 => ?_) (fun b11 => ?_)
    · refine aw_il3 K dX7_sheet_16 ?_
      refine aw_if_ge (tgt := 23) K dX7_sheet_17 (by decide) (fun b17 => ?_) (fun b17 => ?_)
      · obtain ⟨j, hj, rfl⟩ := sh_in (bI_1.mp b5).1
        refine aw_al0 K dX7_sheet_23 ?_
        refine aw_getR K gX7_83 dX7_sheet_24 rfl rfl ?_
        refine aw_il1 K dX7_sheet_27 ?_
        refine aw_il2 K dX7_sheet_28 ?_
        refine aw_iast K dX7_sheet_29 rfl (vp_in_nI hj (by decide)) ?_
        refine aw_al0 K dX7_sheet_30 ?_
        refine aw_getR K gX7_86 dX7_sheet_31 rfl rfl ?_
        refine aw_il1 K dX7_sheet_34 ?_
        refine aw_il3 K dX7_sheet_35 ?_
        refine aw_iast K dX7_sheet_36 rfl (vp_in_nI hj (by decide)) ?_
        refine aw_iconst (v := 0) K dX7_sheet_37 (by decide) ?_
        refine aw_is4 K dX7_sheet_38 (by decide) rfl ?_
        exact ul_msheet K j hj b c _ ((if_pos ⟨(bI_1.mp b5).1, (bI_1.mp b5).2, b11⟩).trans (if_neg (Int32.not_lt.mpr b17))) 49 0 _ (by omega) (by omega)
      · refine aw_bipush (v := (-14)) K dX7_sheet_20 (by decide) ?_
        refine aw_iret K rfl dX7_sheet_22 ?_
        exact congrArg some (congrArg Value.int (Eq.symm ((if_pos ⟨(bI_1.mp b5).1, (bI_1.mp b5).2, b11⟩).trans (if_pos (not_le32 b17)))))
    · refine aw_iconst (v := (-1)) K dX7_sheet_14 (by decide) ?_
      refine aw_iret K rfl dX7_sheet_15 ?_
      first
        | exact congrArg some (congrArg Value.int (if_neg (fun q => b11 q.2.2)).symm)
        | exact congrArg some (congrArg Value.int (if_neg (fun q => bI_0.mp b5 ⟨q.1, q.2.1⟩)).symm)

set_option maxHeartbeats 4000000 in
set_option maxRecDepth 100000 in
theorem uX7_lay (l : Launch) (g : Geo) (sta : Nat → Nat) (h : HS) (a b c : Int32) (F : MF0 h) : CT (wM l g sta) 6 mX7_lay [.ref (g.2.1 0), .int a, .int b, .int c] h (DR (if 0 ≤ a ∧ a ≤ 3 then -11 else -1)) := by
  refine CT.at [some (.ref (g.2.1 0)), some (.int a), some (.int b), some (.int c)] 0 rfl (by decide) (Nat.le_of_ble_eq_true rfl) (fun k K => ?_)
  refine aw_il1 K dX7_lay_0 ?_
  refine aw_iconst (v := 0) K dX7_lay_1 (by decide) ?_
  refine aw_callS_I K (tX7_isSheet l g sta _ _ _) rfl (by decide) fX7_isSheet lX7_324 dX7_lay_2 rfl (Nat.le_of_ble_eq_true rfl) ?_
  refine aw_if_ne (tgt := 10) K dX7_lay_5 (by decide) (fun b5 => ?_) (fun b5 => ?_)
  · obtain ⟨j, hj, rfl⟩ := sh_in (bI_1.mp b5).1
    refine aw_al0 K dX7_lay_10 ?_
    refine aw_getR K gX7_83 dX7_lay_11 rfl rfl ?_
    refine aw_il1 K dX7_lay_14 ?_
    refine aw_iald K dX7_lay_15 rfl (vp_in_nI hj (by decide)) ?_
    refine aw_bipush (v := (-4)) K dX7_lay_16 (by decide) ?_
    rw [F.2.2.2.2.2.2.2.2 _ (by rw [nI_clamp (by omega)]; exact hj)]
    refine aw_icmp_ne (tgt := 24) K dX7_lay_18 (by decide) (fun b18 => ?_) (fun b18 => ?_)
    · exact absurd rfl b18
    · refine aw_bipush (v := (-11)) K dX7_lay_21 (by decide) ?_
      refine aw_iret K rfl dX7_lay_23 ?_
      exact congrArg some (congrArg Value.int ((if_pos (bI_1.mp b5).1).symm))
  · refine aw_iconst (v := (-1)) K dX7_lay_8 (by decide) ?_
    refine aw_iret K rfl dX7_lay_9 ?_
    exact congrArg some (congrArg Value.int ((if_neg (fun q => bI_0.mp b5 ⟨q, by decide⟩)).symm))

set_option maxHeartbeats 4000000 in
set_option maxRecDepth 100000 in
theorem uX7_refuses (l : Launch) (g : Geo) (sta : Nat → Nat) (h : HS) (a b : Int32) (c : Int64) (h4 : vp_in a 4) (h5 : h.1 25 a.toNatClampNeg = -4) (F : MF0 h) : CT (wM l g sta) 2 mX7_refuses [.ref (g.2.1 0), .int a, .int b, .long c] h (DI 1 h) := by
  refine CT.at [some (.ref (g.2.1 0)), some (.int a), some (.int b), some (.long c), none] 0 rfl (by decide) (Nat.le_of_ble_eq_true rfl) (fun k K => ?_)
  refine aw_al0 K dX7_refuses_0 ?_
  refine aw_getR K gX7_83 dX7_refuses_1 rfl rfl ?_
  refine aw_il1 K dX7_refuses_4 ?_
  refine aw_iald K dX7_refuses_5 rfl h4 ?_
  refine aw_bipush (v := (-4)) K dX7_refuses_6 (by decide) ?_
  refine aw_icmp_ne (tgt := 15) K dX7_refuses_8 (by decide) (fun b8 => ?_) (fun b8 => ?_)
  · exact absurd h5 b8
  · refine aw_iconst (v := 1) K dX7_refuses_11 (by decide) ?_
    refine aw_goto (tgt := 52) K dX7_refuses_12 (by decide) ?_
    refine aw_iret K rfl dX7_refuses_52 ?_
    exact ⟨rfl, rfl⟩

set_option maxHeartbeats 4000000 in
set_option maxRecDepth 100000 in
theorem uX7_read (l : Launch) (g : Geo) (sta : Nat → Nat) (h : HS) (a b c e : Int32) (F : MF0 h) : CT (wM l g sta) 6 mX7_read [.ref (g.2.1 0), .int a, .int b, .int c, .int e] h (DR (if (0 ≤ a ∧ a ≤ 3) ∧ (0 ≤ b ∧ b ≤ 2) ∧ (0 ≤ e ∧ e ≤ 12) then 0 else -1)) := by
  refine CT.at [some (.ref (g.2.1 0)), some (.int a), some (.int b), some (.int c), some (.int e), none, none, none, none] 4 rfl (by decide) (Nat.le_of_ble_eq_true rfl) (fun k K => ?_)
  refine aw_il1 K dX7_read_0 ?_
  refine aw_il2 K dX7_read_1 ?_
  refine aw_callS_I K (tX7_isSheet l g sta _ _ _) rfl (by decide) fX7_isSheet lX7_324 dX7_read_2 rfl (Nat.le_of_ble_eq_true rfl) ?_
  refine aw_if_eq (tgt := 21) K dX7_read_5 (by decide) (fun b5 => ?_) (fun b5 => ?_)
  · refine aw_iconst (v := (-1)) K dX7_read_21 (by decide) ?_
    refine aw_iret K rfl dX7_read_22 ?_
    first
      | exact congrArg some (congrArg Value.int (if_neg (fun q => bI_0.mp b18 q.2.2)).symm)
      | exact congrArg some (congrArg Value.int (if_neg (fun q => bI_0.mp b5 ⟨q.1, q.2.1⟩)).symm)
  · refine aw_il4 K dX7_read_8 ?_
    refine aw_i2l K dX7_read_10 ?_
    refine aw_lconst (v := 0) K dX7_read_11 (by decide) ?_
    refine aw_ldc2 K qX7_327 dX7_read_12 ?_
    refine aw_callS_I K (in32 l g sta _ _ (0) (12) (by first | rfl | decide) (by first | rfl | decide)) rfl (by decide) fX7_in lX7_102 dX7_read_15 rfl (Nat.le_of_ble_eq_true rfl) ?_
    refine aw_if_ne (tgt := 23) K dX7_read_18 (by decide) (fun b18 => ?_) (fun b18 => ?_)
    · obtain ⟨j, hj, rfl⟩ := sh_in (bI_1.mp b5).1
      refine aw_iconst (v := 0) K dX7_read_23 (by decide) ?_
      refine aw_is5 K dX7_read_24 (by decide) rfl ?_
      refine aw_iconst (v := 0) K dX7_read_26 (by decide) ?_
      refine aw_is6 K dX7_read_27 (by decide) rfl ?_
      refine aw_iconst (v := 0) K dX7_read_29 (by decide) ?_
      refine aw_is7 K dX7_read_30 (by decide) rfl ?_
      refine aw_il7 K dX7_read_32 ?_
      refine aw_il4 K dX7_read_34 ?_
      refine aw_icmp_ge (tgt := 188) K dX7_read_36 (by decide) (fun b36 => ?_) (fun b36 => ?_)
      · refine aw_iconst (v := 0) K dX7_read_188 (by decide) ?_
        refine aw_is7 K dX7_read_189 (by decide) rfl ?_
        refine aw_il7 K dX7_read_191 ?_
        refine aw_il6 K dX7_read_193 ?_
        refine aw_icmp_ge (tgt := 255) K dX7_read_195 (by decide) (fun b195 => ?_) (fun b195 => ?_)
        · refine aw_al0 K dX7_read_255 ?_
          refine aw_il5 K dX7_read_256 ?_
          refine aw_putI K gX7_333 fpX7_43 dX7_read_258 rfl rfl ?_
          refine aw_il6 K dX7_read_261 ?_
          refine aw_iret K rfl dX7_read_263 ?_
          exact congrArg some (congrArg Value.int (Eq.symm (if_pos ⟨(bI_1.mp b5).1, (bI_1.mp b5).2, bI_1.mp b18⟩)))
        · exact absurd (by decide) b195
      · refine aw_il5 K dX7_read_39 ?_
        refine aw_if_ne (tgt := 188) K dX7_read_41 (by decide) (fun b41 => ?_) (fun b41 => ?_)
        · exact absurd rfl b41
        · refine aw_iconst (v := 0) K dX7_read_44 (by decide) ?_
          refine aw_is8 K dX7_read_45 (by decide) rfl ?_
          refine aw_il8 K dX7_read_47 ?_
          refine aw_iconst (v := 4) K dX7_read_49 (by decide) ?_
          refine aw_icmp_ge (tgt := 84) K dX7_read_50 (by decide) (fun b50 => ?_) (fun b50 => ?_)
          · exact absurd b50 (by decide)
          · refine aw_il5 K dX7_read_53 ?_
            refine aw_if_ne (tgt := 84) K dX7_read_55 (by decide) (fun b55 => ?_) (fun b55 => ?_)
            · exact absurd rfl b55
            · refine aw_al0 K dX7_read_58 ?_
              refine aw_il1 K dX7_read_59 ?_
              refine aw_il2 K dX7_read_60 ?_
              refine aw_il3 K dX7_read_61 ?_
              refine aw_i2l K dX7_read_62 ?_
              refine aw_iconst (v := 4) K dX7_read_63 (by decide) ?_
              refine aw_il7 K dX7_read_64 ?_
              refine aw_imul K dX7_read_66 ?_
              refine aw_i2l K dX7_read_67 ?_
              refine aw_ladd K dX7_read_68 ?_
              refine aw_il8 K dX7_read_69 ?_
              refine aw_i2l K dX7_read_71 ?_
              refine aw_ladd K dX7_read_72 ?_
              refine aw_callV_I K (uX7_refuses l g sta _ _ _ _ (vp_in_nI hj (by decide)) (F.2.2.2.2.2.2.2.2 _ (by rw [nI_clamp (by omega)]; exact hj)) F) rfl (by decide) fX7_refuses lX7_329 dX7_read_73 rfl clsX7 rfl (Nat.le_of_ble_eq_true rfl) ?_
              refine aw_is5 K dX7_read_76 (by decide) rfl ?_
              refine aw_ii8 (v := _ + 1) K dX7_read_78 rfl (by decide) rfl ?_
              refine aw_goto (tgt := 47) K dX7_read_81 (by decide) ?_
              refine aw_il8 K dX7_read_47 ?_
              refine aw_iconst (v := 4) K dX7_read_49 (by decide) ?_
              refine aw_icmp_ge (tgt := 84) K dX7_read_50 (by decide) (fun b50 => ?_) (fun b50 => ?_)
              · exact absurd b50 (by decide)
              · refine aw_il5 K dX7_read_53 ?_
                refine aw_if_ne (tgt := 84) K dX7_read_55 (by decide) (fun b55 => ?_) (fun b55 => ?_)
                · refine aw_il5 K dX7_read_84 ?_
                  refine aw_if_ne (tgt := 182) K dX7_read_86 (by decide) (fun b86 => ?_) (fun b86 => ?_)
                  · refine aw_ii7 (v := _ + 1) K dX7_read_182 rfl (by decide) rfl ?_
                    refine aw_goto (tgt := 32) K dX7_read_185 (by decide) ?_
                    refine aw_il7 K dX7_read_32 ?_
                    refine aw_il4 K dX7_read_34 ?_
                    refine aw_icmp_ge (tgt := 188) K dX7_read_36 (by decide) (fun b36 => ?_) (fun b36 => ?_)
                    · refine aw_iconst (v := 0) K dX7_read_188 (by decide) ?_
                      refine aw_is7 K dX7_read_189 (by decide) rfl ?_
                      refine aw_il7 K dX7_read_191 ?_
                      refine aw_il6 K dX7_read_193 ?_
                      refine aw_icmp_ge (tgt := 255) K dX7_read_195 (by decide) (fun b195 => ?_) (fun b195 => ?_)
                      · refine aw_al0 K dX7_read_255 ?_
                        refine aw_il5 K dX7_read_256 ?_
                        refine aw_putI K gX7_333 fpX7_43 dX7_read_258 rfl rfl ?_
                        refine aw_il6 K dX7_read_261 ?_
                        refine aw_iret K rfl dX7_read_263 ?_
                        exact congrArg some (congrArg Value.int (Eq.symm (if_pos ⟨(bI_1.mp b5).1, (bI_1.mp b5).2, bI_1.mp b18⟩)))
                      · exact absurd (by decide) b195
                    · refine aw_il5 K dX7_read_39 ?_
                      refine aw_if_ne (tgt := 188) K dX7_read_41 (by decide) (fun b41 => ?_) (fun b41 => ?_)
                      · refine aw_iconst (v := 0) K dX7_read_188 (by decide) ?_
                        refine aw_is7 K dX7_read_189 (by decide) rfl ?_
                        refine aw_il7 K dX7_read_191 ?_
                        refine aw_il6 K dX7_read_193 ?_
                        refine aw_icmp_ge (tgt := 255) K dX7_read_195 (by decide) (fun b195 => ?_) (fun b195 => ?_)
                        · refine aw_al0 K dX7_read_255 ?_
                          refine aw_il5 K dX7_read_256 ?_
                          refine aw_putI K gX7_333 fpX7_43 dX7_read_258 rfl rfl ?_
                          refine aw_il6 K dX7_read_261 ?_
                          refine aw_iret K rfl dX7_read_263 ?_
                          exact congrArg some (congrArg Value.int (Eq.symm (if_pos ⟨(bI_1.mp b5).1, (bI_1.mp b5).2, bI_1.mp b18⟩)))
                        · exact absurd (by decide) b195
                      · exact absurd b41 (by decide)
                  · exact absurd b86 (by decide)
                · exact absurd b55 (by decide)
    · refine aw_iconst (v := (-1)) K dX7_read_21 (by decide) ?_
      refine aw_iret K rfl dX7_read_22 ?_
      first
        | exact congrArg some (congrArg Value.int (if_neg (fun q => bI_0.mp b18 q.2.2)).symm)
        | exact congrArg some (congrArg Value.int (if_neg (fun q => bI_0.mp b5 ⟨q.1, q.2.1⟩)).symm)

set_option maxHeartbeats 4000000 in
set_option maxRecDepth 100000 in
theorem uX7_count (l : Launch) (g : Geo) (sta : Nat → Nat) (h : HS) (a : Int32) (F : MF0 h) : CT (wM l g sta) 6 mX7_count [.ref (g.2.1 0), .int a] h (DR (cnR a)) := by
  refine CT.at [some (.ref (g.2.1 0)), some (.int a), none, none, none, none, none, none] 6 rfl (by decide) (Nat.le_of_ble_eq_true rfl) (fun k K => ?_)
  refine aw_iconst (v := 0) K dX7_count_0 (by decide) ?_
  refine aw_is2 K dX7_count_1 (by decide) rfl ?_
  refine aw_iconst (v := 0) K dX7_count_2 (by decide) ?_
  refine aw_is3 K dX7_count_3 (by decide) rfl ?_
  refine aw_iconst (v := 0) K dX7_count_4 (by decide) ?_
  refine aw_is4 K dX7_count_5 (by decide) rfl ?_
  refine aw_iconst (v := 0) K dX7_count_7 (by decide) ?_
  refine aw_is5 K dX7_count_8 (by decide) rfl ?_
  refine aw_iconst (v := 0) K dX7_count_10 (by decide) ?_
  refine aw_is6 K dX7_count_11 (by decide) rfl ?_
  refine aw_iconst (v := 0) K dX7_count_13 (by decide) ?_
  refine aw_is7 K dX7_count_14 (by decide) rfl ?_
  refine aw_il7 K dX7_count_16 ?_
  refine aw_al0 K dX7_count_18 ?_
  refine aw_getI K gX7_98 dX7_count_19 rfl rfl ?_
  refine aw_icmp_ge (tgt := 86) K dX7_count_22 (by decide) (fun b22 => ?_) (fun b22 => ?_)
  · refine aw_iconst (v := 0) K dX7_count_86 (by decide) ?_
    refine aw_is7 K dX7_count_87 (by decide) rfl ?_
    refine aw_il7 K dX7_count_89 ?_
    refine aw_al0 K dX7_count_91 ?_
    refine aw_getI K gX7_121 dX7_count_92 rfl rfl ?_
    refine aw_icmp_ge (tgt := 123) K dX7_count_95 (by decide) (fun b95 => ?_) (fun b95 => ?_)
    · refine aw_iconst (v := 0) K dX7_count_123 (by decide) ?_
      refine aw_is7 K dX7_count_124 (by decide) rfl ?_
      refine aw_il7 K dX7_count_126 ?_
      refine aw_al0 K dX7_count_128 ?_
      refine aw_getI K gX7_235 dX7_count_129 rfl rfl ?_
      refine aw_icmp_ge (tgt := 160) K dX7_count_132 (by decide) (fun b132 => ?_) (fun b132 => ?_)
      · refine aw_il1 K dX7_count_160 ?_
        refine aw_tsw (tgt := 281) K dX7_count_161 (by decide) (by decide) (by decide) ⟨fun s0 => ?_, fun s1 => ?_, fun s2 => ?_, fun s3 => ?_, fun s4 => ?_, fun s5 => ?_, fun s6 => ?_, fun s7 => ?_, fun s8 => ?_, fun s9 => ?_, fun s10 => ?_, trivial⟩ (fun sd => ?_)
        · show AW _ _ _ _ _ 220 _ _ _
          refine aw_al0 K dX7_count_220 ?_
          refine aw_getI K gX7_98 dX7_count_221 rfl rfl ?_
          refine aw_iret K rfl dX7_count_224 ?_
          show some _ = some _
          rw [F.1, cn_z s0 (by decide) (by decide)]
        · show AW _ _ _ _ _ 225 _ _ _
          refine aw_il2 K dX7_count_225 ?_
          refine aw_iret K rfl dX7_count_226 ?_
          show some _ = some _
          rw [cn_z s1 (by decide) (by decide)]
        · show AW _ _ _ _ _ 227 _ _ _
          refine aw_il3 K dX7_count_227 ?_
          refine aw_iret K rfl dX7_count_228 ?_
          show some _ = some _
          rw [cn_z s2 (by decide) (by decide)]
        · show AW _ _ _ _ _ 229 _ _ _
          refine aw_il4 K dX7_count_229 ?_
          refine aw_iret K rfl dX7_count_231 ?_
          show some _ = some _
          rw [cn_z s3 (by decide) (by decide)]
        · show AW _ _ _ _ _ 232 _ _ _
          refine aw_al0 K dX7_count_232 ?_
          refine aw_getI K gX7_121 dX7_count_233 rfl rfl ?_
          refine aw_iret K rfl dX7_count_236 ?_
          show some _ = some _
          rw [F.2.1, cn_z s4 (by decide) (by decide)]
        · show AW _ _ _ _ _ 237 _ _ _
          refine aw_il5 K dX7_count_237 ?_
          refine aw_iret K rfl dX7_count_239 ?_
          show some _ = some _
          rw [cn_z s5 (by decide) (by decide)]
        · show AW _ _ _ _ _ 240 _ _ _
          refine aw_al0 K dX7_count_240 ?_
          refine aw_getI K gX7_235 dX7_count_241 rfl rfl ?_
          refine aw_iret K rfl dX7_count_244 ?_
          show some _ = some _
          rw [F.2.2.1, cn_z s6 (by decide) (by decide)]
        · show AW _ _ _ _ _ 245 _ _ _
          refine aw_il6 K dX7_count_245 ?_
          refine aw_iret K rfl dX7_count_247 ?_
          show some _ = some _
          rw [cn_z s7 (by decide) (by decide)]
        · show AW _ _ _ _ _ 248 _ _ _
          refine aw_al0 K dX7_count_248 ?_
          refine aw_getI K gX7_106 dX7_count_249 rfl rfl ?_
          refine aw_iret K rfl dX7_count_252 ?_
          show some _ = some _
          rw [F.2.2.2.1, cn_z s8 (by decide) (by decide)]
        · show AW _ _ _ _ _ 253 _ _ _
          refine aw_al0 K dX7_count_253 ?_
          refine aw_getI K gX7_149 dX7_count_254 rfl rfl ?_
          refine aw_iret K rfl dX7_count_257 ?_
          show some _ = some _
          rw [F.2.2.2.2.2.1, cn_z s9 (by decide) (by decide)]
        · show AW _ _ _ _ _ 258 _ _ _
          refine aw_al0 K dX7_count_258 ?_
          refine aw_getR K gX7_83 dX7_count_259 rfl rfl ?_
          refine aw_iconst (v := 0) K dX7_count_262 (by decide) ?_
          refine aw_iald K dX7_count_263 rfl (vp_in_nI (n := 0) (by decide) (by decide)) ?_
          refine aw_bipush (v := (-4)) K dX7_count_264 (by decide) ?_
          refine aw_icmp_ne (tgt := 274) K dX7_count_266 (by decide) (fun b266 => ?_) (fun b266 => ?_)
          · exact absurd (F.2.2.2.2.2.2.2.2 0 (by decide)) b266
          · refine aw_bipush (v := (-4)) K dX7_count_269 (by decide) ?_
            refine aw_goto (tgt := 280) K dX7_count_271 (by decide) ?_
            refine aw_iret K rfl dX7_count_280 ?_
            show some _ = some _
            rw [cn_n s10]
        · show AW _ _ _ _ _ 281 _ _ _
          refine aw_iconst (v := (-1)) K dX7_count_281 (by decide) ?_
          refine aw_iret K rfl dX7_count_282 ?_
          show some _ = some _
          rw [cn_d sd]
      · exact absurd (by rw [F.2.2.1]; decide) b132
    · exact absurd (by rw [F.2.1]; decide) b95
  · exact absurd (by rw [F.1]; decide) b22

set_option maxHeartbeats 4000000 in
set_option maxRecDepth 100000 in
theorem uX7_look (l : Launch) (g : Geo) (sta : Nat → Nat) (h : HS) (a : Int32) (h1 : h.1 0 17 ≤ a) : CT (wM l g sta) 1 mX7_look [.ref (g.2.1 0), .int a] h (DI (-1) h) := by
  refine CT.at [some (.ref (g.2.1 0)), some (.int a)] 0 rfl (by decide) (Nat.le_of_ble_eq_true rfl) (fun k K => ?_)
  refine aw_il1 K dX7_look_0 ?_
  refine aw_al0 K dX7_look_1 ?_
  refine aw_getI K gX7_149 dX7_look_2 rfl rfl ?_
  refine aw_icmp_ge (tgt := 17) K dX7_look_5 (by decide) (fun b5 => ?_) (fun b5 => ?_)
  · refine aw_iconst (v := (-1)) K dX7_look_17 (by decide) ?_
    refine aw_iret K rfl dX7_look_18 ?_
    exact ⟨rfl, rfl⟩
  · exact absurd h1 b5

set_option maxHeartbeats 4000000 in
set_option maxRecDepth 100000 in
theorem uX7_next (l : Launch) (g : Geo) (sta : Nat → Nat) (h : HS) (hf : h.1 0 22 = 0) (hp : h.1 0 18 = 0) (ht : h.1 0 17 = 0) : CT (wM l g sta) 2 mX7_next [.ref (g.2.1 0)] h (DV (setI (setI h 0 19 (h.1 0 18)) 0 20 0)) := by
  refine CT.at [some (.ref (g.2.1 0)), none] 1 rfl (by decide) (Nat.le_of_ble_eq_true rfl) (fun k K => ?_)
  refine aw_al0 K dX7_next_0 ?_
  refine aw_getI K gX7_154 dX7_next_1 rfl rfl ?_
  refine aw_if_le (tgt := 8) K dX7_next_4 (by decide) (fun b4 => ?_) (fun b4 => ?_)
  · refine aw_al0 K dX7_next_8 ?_
    refine aw_al0 K dX7_next_9 ?_
    refine aw_getI K gX7_163 dX7_next_10 rfl rfl ?_
    refine aw_callV_I K (uX7_look l g sta _ _ (by rw [hp, ht]; decide)) rfl (by decide) fX7_look lX7_166 dX7_next_13 rfl clsX7 rfl (Nat.le_of_ble_eq_true rfl) ?_
    refine aw_bipush (v := 32) K dX7_next_16 (by decide) ?_
    refine aw_icmp_ne (tgt := 34) K dX7_next_18 (by decide) (fun b18 => ?_) (fun b18 => ?_)
    · refine aw_al0 K dX7_next_34 ?_
      refine aw_al0 K dX7_next_35 ?_
      refine aw_getI K gX7_163 dX7_next_36 rfl rfl ?_
      refine aw_putI K gX7_157 fpX7_19 dX7_next_39 rfl rfl ?_
      refine aw_al0 K dX7_next_42 ?_
      refine aw_al0 K dX7_next_43 ?_
      refine aw_getI K gX7_163 dX7_next_44 rfl rfl ?_
      refine aw_callV_I K (uX7_look l g sta _ _ (by simp [rdI, hp, ht])) rfl (by decide) fX7_look lX7_166 dX7_next_47 rfl clsX7 rfl (Nat.le_of_ble_eq_true rfl) ?_
      refine aw_is1 K dX7_next_50 (by decide) rfl ?_
      refine aw_il1 K dX7_next_51 ?_
      refine aw_if_ge (tgt := 63) K dX7_next_52 (by decide) (fun b52 => ?_) (fun b52 => ?_)
      · exact absurd b52 (by decide)
      · refine aw_al0 K dX7_next_55 ?_
        refine aw_iconst (v := 0) K dX7_next_56 (by decide) ?_
        refine aw_putI K gX7_173 fpX7_20 dX7_next_57 rfl rfl ?_
        refine aw_goto (tgt := 304) K dX7_next_60 (by decide) ?_
        refine aw_vret K rfl dX7_next_304 ?_
        exact ⟨rfl, rfl⟩
    · exact absurd b18 (by decide)
  · rw [hf] at b4
    exact absurd (by decide) b4

set_option maxHeartbeats 4000000 in
set_option maxRecDepth 100000 in
theorem uX7_rules (l : Launch) (g : Geo) (sta : Nat → Nat) (h : HS) (F : MF0 h) : CT (wM l g sta) 6 mX7_rules [.ref (g.2.1 0)] h (DR 0) := by
  refine CT.at [some (.ref (g.2.1 0)), none] 1 rfl (by decide) (Nat.le_of_ble_eq_true rfl) (fun k K => ?_)
  refine aw_iconst (v := 0) K dX7_rules_0 (by decide) ?_
  refine aw_is1 K dX7_rules_1 (by decide) rfl ?_
  refine aw_al0 K dX7_rules_2 ?_
  refine aw_iconst (v := 0) K dX7_rules_3 (by decide) ?_
  refine aw_putI K gX7_154 fpX7_22 dX7_rules_4 rfl rfl ?_
  refine aw_al0 K dX7_rules_7 ?_
  refine aw_iconst (v := 0) K dX7_rules_8 (by decide) ?_
  refine aw_putI K gX7_163 fpX7_18 dX7_rules_9 rfl rfl ?_
  refine aw_al0 K dX7_rules_12 ?_
  refine aw_callV_V K (tX7_firstRules l g sta _) rfl (by decide) fX7_firstRules lX7_92 dX7_rules_13 rfl clsX7 rfl (Nat.le_of_ble_eq_true rfl) ?_
  refine aw_al0 K dX7_rules_16 ?_
  refine aw_callV_V K (uX7_next l g sta _ (by simp [FR, rdI, rdR]) (by simp [FR, rdI, rdR]) (by simp [FR, rdI, rdR, F.2.2.2.2.2.1])) rfl (by decide) fX7_next lX7_195 dX7_rules_17 rfl clsX7 rfl (Nat.le_of_ble_eq_true rfl) ?_
  refine aw_al0 K dX7_rules_20 ?_
  refine aw_getI K gX7_154 dX7_rules_21 rfl rfl ?_
  refine aw_if_ne (tgt := 44) K dX7_rules_24 (by decide) (fun b24 => ?_) (fun b24 => ?_)
  · exact absurd (by simp [FR, rdI, rdR]) b24
  · refine aw_al0 K dX7_rules_27 ?_
    refine aw_getI K gX7_173 dX7_rules_28 rfl rfl ?_
    refine aw_if_eq (tgt := 44) K dX7_rules_31 (by decide) (fun b31 => ?_) (fun b31 => ?_)
    · refine aw_al0 K dX7_rules_44 ?_
      refine aw_iconst (v := 0) K dX7_rules_45 (by decide) ?_
      refine aw_putI K gX7_149 fpX7_17 dX7_rules_46 rfl rfl ?_
      refine aw_al0 K dX7_rules_49 ?_
      refine aw_getI K gX7_154 dX7_rules_50 rfl rfl ?_
      refine aw_if_le (tgt := 64) K dX7_rules_53 (by decide) (fun b53 => ?_) (fun b53 => ?_)
      · refine aw_al0 K dX7_rules_64 ?_
        refine aw_callV_V K (tX7_keepRules l g sta _) rfl (by decide) fX7_keepRules lX7_95 dX7_rules_65 rfl clsX7 rfl (Nat.le_of_ble_eq_true rfl) ?_
        refine aw_il1 K dX7_rules_68 ?_
        refine aw_iret K rfl dX7_rules_69 ?_
        exact rfl
      · exact absurd (by simp [FR, rdI, rdR]) b53
    · exact absurd (by simp [FR, rdI, rdR]) b31

