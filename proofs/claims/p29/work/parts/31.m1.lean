theorem i64_le (a b : Int32) : a.toInt64 ≤ b.toInt64 ↔ a ≤ b := by
  rw [Int64.le_iff_toInt_le, Int32.le_iff_toInt_le, Int32.toInt_toInt64, Int32.toInt_toInt64]
/-- what every state of the reference has, as far as its indices need it -/
def MW (h : HS) (N T Wn : Nat) : Prop := (h.1 0 0 = nI N ∧ N ≤ 12) ∧ (h.1 0 6 = nI T ∧ T ≤ 24) ∧ (h.1 0 27 = nI Wn ∧ Wn ≤ 24) ∧ (∀ t, vp_in (h.1 6 t) 12) ∧ (∀ t, vp_in (h.1 7 t) 12) ∧ (∀ t, vp_in (h.1 9 t) 4) ∧ (∀ t, vp_in (h.1 18 t) 12) ∧ (∀ t, vp_in (h.1 19 t) 12)
theorem fd_eq (x q : Int32) (h : 0 ≤ q) : x * (if 0 < q then q else 0) / 100 = x * q / 100 := by
  by_cases z : 0 < q
  · rw [if_pos z]
  · rw [if_neg z, show q = 0 from Int32.le_antisymm (Int32.not_lt.mp z) h]
theorem fd_eq0 (x q : Int32) (h : ¬ 0 ≤ q) : x * (if 0 < q then q else 0) / 100 = 0 := by
  rw [if_neg (fun z => h (Int32.le_of_lt z)), Int32.mul_zero]
  decide
set_option maxHeartbeats 4000000 in
set_option maxRecDepth 100000 in
theorem tX7_in (l : Launch) (g : Geo) (sta : Nat → Nat) (h : HS) (v a b : Int64) : CT (wM l g sta) 1 mX7_in [.long v, .long a, .long b] h (DI (bI (a ≤ v ∧ v ≤ b)) h) := by
  refine CT.at [some (.long v), none, some (.long a), none, some (.long b), none] 0 rfl (by decide) (Nat.le_of_ble_eq_true rfl) (fun k K => ?_)
  refine aw_ll0 K dX7_in_0 ?_
  refine aw_ll2 K dX7_in_1 ?_
  refine aw_lcmp K dX7_in_2 ?_
  refine aw_if_lt (tgt := 17) K dX7_in_3 (by decide) (fun b3 => ?_) (fun b3 => ?_)
  · refine aw_iconst (v := 0) K dX7_in_17 (by decide) ?_
    refine aw_zret K rfl dX7_in_18 (by first | rfl | exact bI_nar _) ?_
    exact ⟨congrArg some (congrArg Value.int (bI_f (fun q => Int64.not_le.mpr ((lg_cmp_lt _ _).mp b3) q.1)).symm), rfl⟩
  · refine aw_ll0 K dX7_in_6 ?_
    refine aw_ll4 K dX7_in_7 ?_
    refine aw_lcmp K dX7_in_9 ?_
    refine aw_if_gt (tgt := 17) K dX7_in_10 (by decide) (fun b10 => ?_) (fun b10 => ?_)
    · refine aw_iconst (v := 0) K dX7_in_17 (by decide) ?_
      refine aw_zret K rfl dX7_in_18 (by first | rfl | exact bI_nar _) ?_
      exact ⟨congrArg some (congrArg Value.int (bI_f (fun q => Int64.not_le.mpr ((lg_cmp_gt _ _).mp b10) q.2)).symm), rfl⟩
    · refine aw_iconst (v := 1) K dX7_in_13 (by decide) ?_
      refine aw_goto (tgt := 18) K dX7_in_14 (by decide) ?_
      refine aw_zret K rfl dX7_in_18 (by first | rfl | exact bI_nar _) ?_
      exact ⟨congrArg some (congrArg Value.int (bI_t ⟨Int64.not_lt.mp (fun q => b3 ((lg_cmp_lt _ _).mpr q)), Int64.not_lt.mp (fun q => b10 ((lg_cmp_gt _ _).mpr q))⟩).symm), rfl⟩

theorem in32 (l : Launch) (g : Geo) (sta : Nat → Nat) (h : HS) (a lo hi : Int32) {LO HI : Int64} (h1 : LO = lo.toInt64) (h2 : HI = hi.toInt64) : CT (wM l g sta) 1 mX7_in [.long a.toInt64, .long LO, .long HI] h (DI (bI (lo ≤ a ∧ a ≤ hi)) h) := by
  subst h1
  subst h2
  have := tX7_in l g sta h a.toInt64 lo.toInt64 hi.toInt64
  rwa [bI_congr (show (lo.toInt64 ≤ a.toInt64 ∧ a.toInt64 ≤ hi.toInt64) ↔ (lo ≤ a ∧ a ≤ hi) by rw [i64_le, i64_le])] at this
set_option maxHeartbeats 4000000 in
set_option maxRecDepth 100000 in
theorem tX7_isName (l : Launch) (g : Geo) (sta : Nat → Nat) (h : HS) (a : Int32) : CT (wM l g sta) 2 mX7_isName [.ref (g.2.1 0), .int a] h (DI (bI (0 ≤ a ∧ a ≤ h.1 0 0 - 1)) h) := by
  refine CT.at [some (.ref (g.2.1 0)), some (.int a)] 0 rfl (by decide) (Nat.le_of_ble_eq_true rfl) (fun k K => ?_)
  refine aw_il1 K dX7_isName_0 ?_
  refine aw_i2l K dX7_isName_1 ?_
  refine aw_lconst (v := 0) K dX7_isName_2 (by decide) ?_
  refine aw_al0 K dX7_isName_3 ?_
  refine aw_getI K gX7_98 dX7_isName_4 rfl rfl ?_
  refine aw_iconst (v := 1) K dX7_isName_7 (by decide) ?_
  refine aw_isub K dX7_isName_8 ?_
  refine aw_i2l K dX7_isName_9 ?_
  refine aw_callS_I K (in32 l g sta _ _ (0) (h.1 0 0 - 1) (by decide) rfl) rfl (by decide) fX7_in lX7_102 dX7_isName_10 rfl (Nat.le_of_ble_eq_true rfl) ?_
  refine aw_zret K rfl dX7_isName_13 (by first | rfl | exact bI_nar _) ?_
  exact ⟨rfl, rfl⟩

set_option maxHeartbeats 4000000 in
set_option maxRecDepth 100000 in
theorem tX7_isTie (l : Launch) (g : Geo) (sta : Nat → Nat) (h : HS) (a : Int32) : CT (wM l g sta) 2 mX7_isTie [.ref (g.2.1 0), .int a] h (DI (bI (0 ≤ a ∧ a ≤ h.1 0 6 - 1)) h) := by
  refine CT.at [some (.ref (g.2.1 0)), some (.int a)] 0 rfl (by decide) (Nat.le_of_ble_eq_true rfl) (fun k K => ?_)
  refine aw_il1 K dX7_isTie_0 ?_
  refine aw_i2l K dX7_isTie_1 ?_
  refine aw_lconst (v := 0) K dX7_isTie_2 (by decide) ?_
  refine aw_al0 K dX7_isTie_3 ?_
  refine aw_getI K gX7_121 dX7_isTie_4 rfl rfl ?_
  refine aw_iconst (v := 1) K dX7_isTie_7 (by decide) ?_
  refine aw_isub K dX7_isTie_8 ?_
  refine aw_i2l K dX7_isTie_9 ?_
  refine aw_callS_I K (in32 l g sta _ _ (0) (h.1 0 6 - 1) (by decide) rfl) rfl (by decide) fX7_in lX7_102 dX7_isTie_10 rfl (Nat.le_of_ble_eq_true rfl) ?_
  refine aw_zret K rfl dX7_isTie_13 (by first | rfl | exact bI_nar _) ?_
  exact ⟨rfl, rfl⟩

set_option maxHeartbeats 4000000 in
set_option maxRecDepth 100000 in
theorem tX7_areNames (l : Launch) (g : Geo) (sta : Nat → Nat) (h : HS) (a : Int32) : CT (wM l g sta) 2 mX7_areNames [.ref (g.2.1 0), .int a] h (DI (bI (0 ≤ a ∧ a ≤ 1 <<< (h.1 0 0 &&& 31) - 1)) h) := by
  refine CT.at [some (.ref (g.2.1 0)), some (.int a)] 0 rfl (by decide) (Nat.le_of_ble_eq_true rfl) (fun k K => ?_)
  refine aw_il1 K dX7_areNames_0 ?_
  refine aw_i2l K dX7_areNames_1 ?_
  refine aw_lconst (v := 0) K dX7_areNames_2 (by decide) ?_
  refine aw_iconst (v := 1) K dX7_areNames_3 (by decide) ?_
  refine aw_al0 K dX7_areNames_4 ?_
  refine aw_getI K gX7_98 dX7_areNames_5 rfl rfl ?_
  refine aw_ishl K dX7_areNames_8 ?_
  refine aw_iconst (v := 1) K dX7_areNames_9 (by decide) ?_
  refine aw_isub K dX7_areNames_10 ?_
  refine aw_i2l K dX7_areNames_11 ?_
  refine aw_callS_I K (in32 l g sta _ _ (0) (1 <<< (h.1 0 0 &&& 31) - 1) (by decide) rfl) rfl (by decide) fX7_in lX7_102 dX7_areNames_12 rfl (Nat.le_of_ble_eq_true rfl) ?_
  refine aw_zret K rfl dX7_areNames_15 (by first | rfl | exact bI_nar _) ?_
  exact ⟨rfl, rfl⟩

set_option maxHeartbeats 4000000 in
set_option maxRecDepth 100000 in
theorem tX7_isSheet (l : Launch) (g : Geo) (sta : Nat → Nat) (h : HS) (a b : Int32) : CT (wM l g sta) 2 mX7_isSheet [.int a, .int b] h (DI (bI ((0 ≤ a ∧ a ≤ 3) ∧ (0 ≤ b ∧ b ≤ 2))) h) := by
  refine CT.at [some (.int a), some (.int b)] 0 rfl (by decide) (Nat.le_of_ble_eq_true rfl) (fun k K => ?_)
  refine aw_il0 K dX7_isSheet_0 ?_
  refine aw_i2l K dX7_isSheet_1 ?_
  refine aw_lconst (v := 0) K dX7_isSheet_2 (by decide) ?_
  refine aw_ldc2 K qX7_119 dX7_isSheet_3 ?_
  refine aw_callS_I K (in32 l g sta _ _ (0) (3) (by decide) (by decide)) rfl (by decide) fX7_in lX7_102 dX7_isSheet_6 rfl (Nat.le_of_ble_eq_true rfl) ?_
  refine aw_if_eq (tgt := 28) K dX7_isSheet_9 (by decide) (fun b9 => ?_) (fun b9 => ?_)
  · refine aw_iconst (v := 0) K dX7_isSheet_28 (by decide) ?_
    refine aw_zret K rfl dX7_isSheet_29 (by first | rfl | exact bI_nar _) ?_
    exact ⟨congrArg some (congrArg Value.int (bI_f (fun q => bI_0.mp b9 q.1)).symm), rfl⟩
  · refine aw_il1 K dX7_isSheet_12 ?_
    refine aw_i2l K dX7_isSheet_13 ?_
    refine aw_lconst (v := 0) K dX7_isSheet_14 (by decide) ?_
    refine aw_ldc2 K qX7_226 dX7_isSheet_15 ?_
    refine aw_callS_I K (in32 l g sta _ _ (0) (2) (by decide) (by decide)) rfl (by decide) fX7_in lX7_102 dX7_isSheet_18 rfl (Nat.le_of_ble_eq_true rfl) ?_
    refine aw_if_eq (tgt := 28) K dX7_isSheet_21 (by decide) (fun b21 => ?_) (fun b21 => ?_)
    · refine aw_iconst (v := 0) K dX7_isSheet_28 (by decide) ?_
      refine aw_zret K rfl dX7_isSheet_29 (by first | rfl | exact bI_nar _) ?_
      exact ⟨congrArg some (congrArg Value.int (bI_f (fun q => bI_0.mp b21 q.2)).symm), rfl⟩
    · refine aw_iconst (v := 1) K dX7_isSheet_24 (by decide) ?_
      refine aw_goto (tgt := 29) K dX7_isSheet_25 (by decide) ?_
      refine aw_zret K rfl dX7_isSheet_29 (by first | rfl | exact bI_nar _) ?_
      exact ⟨congrArg some (congrArg Value.int (bI_t ⟨bI_1.mp b9, bI_1.mp b21⟩).symm), rfl⟩

set_option maxHeartbeats 4000000 in
set_option maxRecDepth 100000 in
theorem tX7_isWord (l : Launch) (g : Geo) (sta : Nat → Nat) (h : HS) (a b c e : Int32) : CT (wM l g sta) 3 mX7_isWord [.ref (g.2.1 0), .int a, .int b, .int c, .int e] h (DI (bI ((0 ≤ a ∧ a ≤ h.1 0 0 - 1) ∧ (0 ≤ b ∧ b ≤ h.1 0 0 - 1) ∧ ¬ a = b ∧ (0 ≤ c ∧ c ≤ 99) ∧ (0 ≤ e ∧ e ≤ 10))) h) := by
  refine CT.at [some (.ref (g.2.1 0)), some (.int a), some (.int b), some (.int c), some (.int e)] 0 rfl (by decide) (Nat.le_of_ble_eq_true rfl) (fun k K => ?_)
  refine aw_al0 K dX7_isWord_0 ?_
  refine aw_il1 K dX7_isWord_1 ?_
  refine aw_callV_I K (tX7_isName l g sta _ _) rfl (by decide) fX7_isName lX7_111 dX7_isWord_2 rfl clsX7 rfl (Nat.le_of_ble_eq_true rfl) ?_
  refine aw_if_eq (tgt := 50) K dX7_isWord_5 (by decide) (fun b5 => ?_) (fun b5 => ?_)
  · refine aw_iconst (v := 0) K dX7_isWord_50 (by decide) ?_
    refine aw_zret K rfl dX7_isWord_51 (by first | rfl | exact bI_nar _) ?_
    exact ⟨congrArg some (congrArg Value.int (bI_f (fun q => bI_0.mp b5 q.1)).symm), rfl⟩
  · refine aw_al0 K dX7_isWord_8 ?_
    refine aw_il2 K dX7_isWord_9 ?_
    refine aw_callV_I K (tX7_isName l g sta _ _) rfl (by decide) fX7_isName lX7_111 dX7_isWord_10 rfl clsX7 rfl (Nat.le_of_ble_eq_true rfl) ?_
    refine aw_if_eq (tgt := 50) K dX7_isWord_13 (by decide) (fun b13 => ?_) (fun b13 => ?_)
    · refine aw_iconst (v := 0) K dX7_isWord_50 (by decide) ?_
      refine aw_zret K rfl dX7_isWord_51 (by first | rfl | exact bI_nar _) ?_
      exact ⟨congrArg some (congrArg Value.int (bI_f (fun q => bI_0.mp b13 q.2.1)).symm), rfl⟩
    · refine aw_il1 K dX7_isWord_16 ?_
      refine aw_il2 K dX7_isWord_17 ?_
      refine aw_icmp_eq (tgt := 50) K dX7_isWord_18 (by decide) (fun b18 => ?_) (fun b18 => ?_)
      · refine aw_iconst (v := 0) K dX7_isWord_50 (by decide) ?_
        refine aw_zret K rfl dX7_isWord_51 (by first | rfl | exact bI_nar _) ?_
        exact ⟨congrArg some (congrArg Value.int (bI_f (fun q => q.2.2.1 b18)).symm), rfl⟩
      · refine aw_il3 K dX7_isWord_21 ?_
        refine aw_i2l K dX7_isWord_22 ?_
        refine aw_lconst (v := 0) K dX7_isWord_23 (by decide) ?_
        refine aw_ldc2 K qX7_231 dX7_isWord_24 ?_
        refine aw_callS_I K (in32 l g sta _ _ (0) (99) (by decide) (by decide)) rfl (by decide) fX7_in lX7_102 dX7_isWord_27 rfl (Nat.le_of_ble_eq_true rfl) ?_
        refine aw_if_eq (tgt := 50) K dX7_isWord_30 (by decide) (fun b30 => ?_) (fun b30 => ?_)
        · refine aw_iconst (v := 0) K dX7_isWord_50 (by decide) ?_
          refine aw_zret K rfl dX7_isWord_51 (by first | rfl | exact bI_nar _) ?_
          exact ⟨congrArg some (congrArg Value.int (bI_f (fun q => bI_0.mp b30 q.2.2.2.1)).symm), rfl⟩
        · refine aw_il4 K dX7_isWord_33 ?_
          refine aw_i2l K dX7_isWord_35 ?_
          refine aw_lconst (v := 0) K dX7_isWord_36 (by decide) ?_
          refine aw_ldc2 K qX7_233 dX7_isWord_37 ?_
          refine aw_callS_I K (in32 l g sta _ _ (0) (10) (by decide) (by decide)) rfl (by decide) fX7_in lX7_102 dX7_isWord_40 rfl (Nat.le_of_ble_eq_true rfl) ?_
          refine aw_if_eq (tgt := 50) K dX7_isWord_43 (by decide) (fun b43 => ?_) (fun b43 => ?_)
          · refine aw_iconst (v := 0) K dX7_isWord_50 (by decide) ?_
            refine aw_zret K rfl dX7_isWord_51 (by first | rfl | exact bI_nar _) ?_
            exact ⟨congrArg some (congrArg Value.int (bI_f (fun q => bI_0.mp b43 q.2.2.2.2)).symm), rfl⟩
          · refine aw_iconst (v := 1) K dX7_isWord_46 (by decide) ?_
            refine aw_goto (tgt := 51) K dX7_isWord_47 (by decide) ?_
            refine aw_zret K rfl dX7_isWord_51 (by first | rfl | exact bI_nar _) ?_
            exact ⟨congrArg some (congrArg Value.int (bI_t ⟨bI_1.mp b5, bI_1.mp b13, b18, bI_1.mp b30, bI_1.mp b43⟩).symm), rfl⟩

set_option maxHeartbeats 4000000 in
set_option maxRecDepth 100000 in
theorem tX7_isFined (l : Launch) (g : Geo) (sta : Nat → Nat) (h : HS) (a : Int32) (ha : vp_in a 12) : CT (wM l g sta) 1 mX7_isFined [.ref (g.2.1 0), .int a] h (DI (bI (h.1 0 12 < h.1 4 a.toNatClampNeg)) h) := by
  refine CT.at [some (.ref (g.2.1 0)), some (.int a)] 0 rfl (by decide) (Nat.le_of_ble_eq_true rfl) (fun k K => ?_)
  refine aw_al0 K dX7_isFined_0 ?_
  refine aw_getI K gX7_106 dX7_isFined_1 rfl rfl ?_
  refine aw_al0 K dX7_isFined_4 ?_
  refine aw_getR K gX7_20 dX7_isFined_5 rfl rfl ?_
  refine aw_il1 K dX7_isFined_8 ?_
  refine aw_iald K dX7_isFined_9 rfl ha ?_
  refine aw_icmp_ge (tgt := 17) K dX7_isFined_10 (by decide) (fun b10 => ?_) (fun b10 => ?_)
  · refine aw_iconst (v := 0) K dX7_isFined_17 (by decide) ?_
    refine aw_zret K rfl dX7_isFined_18 (by first | rfl | exact bI_nar _) ?_
    exact ⟨congrArg some (congrArg Value.int (bI_f (lt_not b10)).symm), rfl⟩
  · refine aw_iconst (v := 1) K dX7_isFined_13 (by decide) ?_
    refine aw_goto (tgt := 18) K dX7_isFined_14 (by decide) ?_
    refine aw_zret K rfl dX7_isFined_18 (by first | rfl | exact bI_nar _) ?_
    exact ⟨congrArg some (congrArg Value.int (bI_t (not_le32 b10)).symm), rfl⟩

set_option maxHeartbeats 4000000 in
set_option maxRecDepth 100000 in
theorem tX7_isPlain (l : Launch) (g : Geo) (sta : Nat → Nat) (h : HS) (a : Int32) (ha : vp_in a 12) : CT (wM l g sta) 1 mX7_isPlain [.ref (g.2.1 0), .int a] h (DI (bI (h.1 2 a.toNatClampNeg = 0 ∧ h.1 3 a.toNatClampNeg = 0)) h) := by
  refine CT.at [some (.ref (g.2.1 0)), some (.int a)] 0 rfl (by decide) (Nat.le_of_ble_eq_true rfl) (fun k K => ?_)
  refine aw_al0 K dX7_isPlain_0 ?_
  refine aw_getR K gX7_13 dX7_isPlain_1 rfl rfl ?_
  refine aw_il1 K dX7_isPlain_4 ?_
  refine aw_zald K dX7_isPlain_5 rfl ha ?_
  refine aw_if_ne (tgt := 22) K dX7_isPlain_6 (by decide) (fun b6 => ?_) (fun b6 => ?_)
  · refine aw_iconst (v := 0) K dX7_isPlain_22 (by decide) ?_
    refine aw_zret K rfl dX7_isPlain_23 (by first | rfl | exact bI_nar _) ?_
    exact ⟨congrArg some (congrArg Value.int (bI_f (fun q => b6 q.1)).symm), rfl⟩
  · refine aw_al0 K dX7_isPlain_9 ?_
    refine aw_getR K gX7_17 dX7_isPlain_10 rfl rfl ?_
    refine aw_il1 K dX7_isPlain_13 ?_
    refine aw_zald K dX7_isPlain_14 rfl ha ?_
    refine aw_if_ne (tgt := 22) K dX7_isPlain_15 (by decide) (fun b15 => ?_) (fun b15 => ?_)
    · refine aw_iconst (v := 0) K dX7_isPlain_22 (by decide) ?_
      refine aw_zret K rfl dX7_isPlain_23 (by first | rfl | exact bI_nar _) ?_
      exact ⟨congrArg some (congrArg Value.int (bI_f (fun q => b15 q.2)).symm), rfl⟩
    · refine aw_iconst (v := 1) K dX7_isPlain_18 (by decide) ?_
      refine aw_goto (tgt := 23) K dX7_isPlain_19 (by decide) ?_
      refine aw_zret K rfl dX7_isPlain_23 (by first | rfl | exact bI_nar _) ?_
      exact ⟨congrArg some (congrArg Value.int (bI_t ⟨b6, b15⟩).symm), rfl⟩

set_option maxHeartbeats 4000000 in
set_option maxRecDepth 100000 in
theorem tX7_pledged (l : Launch) (g : Geo) (sta : Nat → Nat) (h : HS) (a : Int32) (ha : vp_in a 12) : CT (wM l g sta) 1 mX7_pledged [.ref (g.2.1 0), .int a] h (DI (plV h.1 a.toNatClampNeg) h) := by
  refine CT.at [some (.ref (g.2.1 0)), some (.int a)] 0 rfl (by decide) (Nat.le_of_ble_eq_true rfl) (fun k K => ?_)
  refine aw_al0 K dX7_pledged_0 ?_
  refine aw_getR K gX7_23 dX7_pledged_1 rfl rfl ?_
  refine aw_il1 K dX7_pledged_4 ?_
  refine aw_iald K dX7_pledged_5 rfl ha ?_
  refine aw_al0 K dX7_pledged_6 ?_
  refine aw_getR K gX7_41 dX7_pledged_7 rfl rfl ?_
  refine aw_bipush (v := 7) K dX7_pledged_10 (by decide) ?_
  refine aw_iald K dX7_pledged_12 rfl (vp_in_nI (n := 7) (by decide) (by decide)) ?_
  refine aw_imul K dX7_pledged_13 ?_
  refine aw_bipush (v := 100) K dX7_pledged_14 (by decide) ?_
  refine aw_idiv K dX7_pledged_16 (by decide) ?_
  refine aw_iret K rfl dX7_pledged_17 ?_
  exact ⟨rfl, rfl⟩

set_option maxHeartbeats 4000000 in
set_option maxRecDepth 100000 in
theorem tX7_given (l : Launch) (g : Geo) (sta : Nat → Nat) (h : HS) (a : Int32) (ha : vp_in a 12) : CT (wM l g sta) 2 mX7_given [.ref (g.2.1 0), .int a] h (DI (gvV h.1 a.toNatClampNeg) h) := by
  refine CT.at [some (.ref (g.2.1 0)), some (.int a)] 0 rfl (by decide) (Nat.le_of_ble_eq_true rfl) (fun k K => ?_)
  refine aw_al0 K dX7_given_0 ?_
  refine aw_getR K gX7_17 dX7_given_1 rfl rfl ?_
  refine aw_il1 K dX7_given_4 ?_
  refine aw_zald K dX7_given_5 rfl ha ?_
  refine aw_if_eq (tgt := 13) K dX7_given_6 (by decide) (fun b6 => ?_) (fun b6 => ?_)
  · refine aw_al0 K dX7_given_13 ?_
    refine aw_il1 K dX7_given_14 ?_
    refine aw_callV_I K (tX7_pledged l g sta _ _ ha) rfl (by decide) fX7_pledged lX7_115 dX7_given_15 rfl clsX7 rfl (Nat.le_of_ble_eq_true rfl) ?_
    refine aw_al0 K dX7_given_18 ?_
    refine aw_getR K gX7_13 dX7_given_19 rfl rfl ?_
    refine aw_il1 K dX7_given_22 ?_
    refine aw_zald K dX7_given_23 rfl ha ?_
    refine aw_if_eq (tgt := 37) K dX7_given_24 (by decide) (fun b24 => ?_) (fun b24 => ?_)
    · refine aw_iconst (v := 0) K dX7_given_37 (by decide) ?_
      refine aw_iadd K dX7_given_38 ?_
      refine aw_iret K rfl dX7_given_39 ?_
      refine ⟨?_, rfl⟩
      rw [gvV, if_pos b6, if_pos b24]
    · refine aw_al0 K dX7_given_27 ?_
      refine aw_getR K gX7_41 dX7_given_28 rfl rfl ?_
      refine aw_bipush (v := 6) K dX7_given_31 (by decide) ?_
      refine aw_iald K dX7_given_33 rfl (vp_in_nI (n := 6) (by decide) (by decide)) ?_
      refine aw_goto (tgt := 38) K dX7_given_34 (by decide) ?_
      refine aw_iadd K dX7_given_38 ?_
      refine aw_iret K rfl dX7_given_39 ?_
      refine ⟨?_, rfl⟩
      rw [gvV, if_pos b6, if_neg b24]
      rfl
  · refine aw_iconst (v := 0) K dX7_given_9 (by decide) ?_
    refine aw_goto (tgt := 39) K dX7_given_10 (by decide) ?_
    refine aw_iret K rfl dX7_given_39 ?_
    refine ⟨?_, rfl⟩
    rw [gvV, if_neg b6]

set_option maxHeartbeats 4000000 in
set_option maxRecDepth 100000 in
theorem tX7_faded (l : Launch) (g : Geo) (sta : Nat → Nat) (h : HS) (x loss age : Int32) : CT (wM l g sta) 1 mX7_faded [.int x, .int loss, .int age] h (DI (fdV x loss age) h) := by
  refine CT.at [some (.int x), some (.int loss), some (.int age), none] 1 rfl (by decide) (Nat.le_of_ble_eq_true rfl) (fun k K => ?_)
  refine aw_bipush (v := 100) K dX7_faded_0 (by decide) ?_
  refine aw_il1 K dX7_faded_2 ?_
  refine aw_il2 K dX7_faded_3 ?_
  refine aw_imul K dX7_faded_4 ?_
  refine aw_bipush (v := 100) K dX7_faded_5 (by decide) ?_
  refine aw_idiv K dX7_faded_7 (by decide) ?_
  refine aw_isub K dX7_faded_8 ?_
  refine aw_is3 K dX7_faded_9 (by decide) rfl ?_
  refine aw_il3 K dX7_faded_10 ?_
  refine aw_if_ge (tgt := 18) K dX7_faded_11 (by decide) (fun b11 => ?_) (fun b11 => ?_)
  · refine aw_il0 K dX7_faded_18 ?_
    refine aw_il3 K dX7_faded_19 ?_
    refine aw_imul K dX7_faded_20 ?_
    refine aw_bipush (v := 100) K dX7_faded_21 (by decide) ?_
    refine aw_idiv K dX7_faded_23 (by decide) ?_
    refine aw_iret K rfl dX7_faded_24 ?_
    exact ⟨congrArg some (congrArg Value.int (fd_eq x _ b11).symm), rfl⟩
  · refine aw_iconst (v := 0) K dX7_faded_14 (by decide) ?_
    refine aw_goto (tgt := 24) K dX7_faded_15 (by decide) ?_
    refine aw_iret K rfl dX7_faded_24 ?_
    exact ⟨congrArg some (congrArg Value.int (fd_eq0 x _ b11).symm), rfl⟩

set_option maxHeartbeats 4000000 in
set_option maxRecDepth 100000 in
theorem tX7_roomOf (l : Launch) (g : Geo) (sta : Nat → Nat) (h : HS) (a : Int32) (ha : vp_in a 24) {N T Wn : Nat} (H : MW h N T Wn) : CT (wM l g sta) 2 mX7_roomOf [.ref (g.2.1 0), .int a] h (DI (rmV h.1 a.toNatClampNeg) h) := by
  refine CT.at [some (.ref (g.2.1 0)), some (.int a), none] 1 rfl (by decide) (Nat.le_of_ble_eq_true rfl) (fun k K => ?_)
  refine aw_al0 K dX7_roomOf_0 ?_
  refine aw_getR K gX7_17 dX7_roomOf_1 rfl rfl ?_
  refine aw_al0 K dX7_roomOf_4 ?_
  refine aw_getR K gX7_26 dX7_roomOf_5 rfl rfl ?_
  refine aw_il1 K dX7_roomOf_8 ?_
  refine aw_iald K dX7_roomOf_9 rfl ha ?_
  refine aw_zald K dX7_roomOf_10 rfl (H.2.2.2.1 _) ?_
  refine aw_if_ne (tgt := 28) K dX7_roomOf_11 (by decide) (fun b11 => ?_) (fun b11 => ?_)
  · refine aw_iconst (v := 0) K dX7_roomOf_28 (by decide) ?_
    refine aw_iret K rfl dX7_roomOf_29 ?_
    refine ⟨?_, rfl⟩
    rw [rmV, if_pos (show ¬ h.1 3 (h.1 6 a.toNatClampNeg).toNatClampNeg = 0 ∨ ¬ h.1 3 (h.1 7 a.toNatClampNeg).toNatClampNeg = 0 from Or.inl b11)]
  · refine aw_al0 K dX7_roomOf_14 ?_
    refine aw_getR K gX7_17 dX7_roomOf_15 rfl rfl ?_
    refine aw_al0 K dX7_roomOf_18 ?_
    refine aw_getR K gX7_29 dX7_roomOf_19 rfl rfl ?_
    refine aw_il1 K dX7_roomOf_22 ?_
    refine aw_iald K dX7_roomOf_23 rfl ha ?_
    refine aw_zald K dX7_roomOf_24 rfl (H.2.2.2.2.1 _) ?_
    refine aw_if_eq (tgt := 30) K dX7_roomOf_25 (by decide) (fun b25 => ?_) (fun b25 => ?_)
    · refine aw_al0 K dX7_roomOf_30 ?_
      refine aw_getR K gX7_32 dX7_roomOf_31 rfl rfl ?_
      refine aw_il1 K dX7_roomOf_34 ?_
      refine aw_iald K dX7_roomOf_35 rfl ha ?_
      refine aw_al0 K dX7_roomOf_36 ?_
      refine aw_getR K gX7_41 dX7_roomOf_37 rfl rfl ?_
      refine aw_al0 K dX7_roomOf_40 ?_
      refine aw_getR K gX7_35 dX7_roomOf_41 rfl rfl ?_
      refine aw_il1 K dX7_roomOf_44 ?_
      refine aw_iald K dX7_roomOf_45 rfl ha ?_
      refine aw_iald K dX7_roomOf_46 rfl (vp_mono (H.2.2.2.2.2.1 _) (by decide)) ?_
      refine aw_imul K dX7_roomOf_47 ?_
      refine aw_bipush (v := 100) K dX7_roomOf_48 (by decide) ?_
      refine aw_idiv K dX7_roomOf_50 (by decide) ?_
      refine aw_al0 K dX7_roomOf_51 ?_
      refine aw_getR K gX7_41 dX7_roomOf_52 rfl rfl ?_
      refine aw_iconst (v := 4) K dX7_roomOf_55 (by decide) ?_
      refine aw_iald K dX7_roomOf_56 rfl (vp_in_nI (n := 4) (by decide) (by decide)) ?_
      refine aw_al0 K dX7_roomOf_57 ?_
      refine aw_getI K gX7_106 dX7_roomOf_58 rfl rfl ?_
      refine aw_al0 K dX7_roomOf_61 ?_
      refine aw_getR K gX7_38 dX7_roomOf_62 rfl rfl ?_
      refine aw_il1 K dX7_roomOf_65 ?_
      refine aw_iald K dX7_roomOf_66 rfl ha ?_
      refine aw_isub K dX7_roomOf_67 ?_
      refine aw_callS_I K (tX7_faded l g sta _ _ _ _) rfl (by decide) fX7_faded lX7_124 dX7_roomOf_68 rfl (Nat.le_of_ble_eq_true rfl) ?_
      refine aw_is2 K dX7_roomOf_71 (by decide) rfl ?_
      refine aw_al0 K dX7_roomOf_72 ?_
      refine aw_al0 K dX7_roomOf_73 ?_
      refine aw_getR K gX7_26 dX7_roomOf_74 rfl rfl ?_
      refine aw_il1 K dX7_roomOf_77 ?_
      refine aw_iald K dX7_roomOf_78 rfl ha ?_
      refine aw_callV_I K (tX7_isFined l g sta _ _ (H.2.2.2.1 _)) rfl (by decide) fX7_isFined lX7_128 dX7_roomOf_79 rfl clsX7 rfl (Nat.le_of_ble_eq_true rfl) ?_
      refine aw_if_ne (tgt := 98) K dX7_roomOf_82 (by decide) (fun b82 => ?_) (fun b82 => ?_)
      · refine aw_il2 K dX7_roomOf_98 ?_
        refine aw_iconst (v := 2) K dX7_roomOf_99 (by decide) ?_
        refine aw_idiv K dX7_roomOf_100 (by decide) ?_
        refine aw_goto (tgt := 105) K dX7_roomOf_101 (by decide) ?_
        refine aw_iret K rfl dX7_roomOf_105 ?_
        refine ⟨?_, rfl⟩
        rw [rmV, if_neg (fun q => q.elim (fun z => z b11) (fun z => z b25)), if_pos (show h.1 0 12 < h.1 4 (h.1 6 a.toNatClampNeg).toNatClampNeg ∨ h.1 0 12 < h.1 4 (h.1 7 a.toNatClampNeg).toNatClampNeg from Or.inl (bI_1.mp b82))]
        rfl
      · refine aw_al0 K dX7_roomOf_85 ?_
        refine aw_al0 K dX7_roomOf_86 ?_
        refine aw_getR K gX7_29 dX7_roomOf_87 rfl rfl ?_
        refine aw_il1 K dX7_roomOf_90 ?_
        refine aw_iald K dX7_roomOf_91 rfl ha ?_
        refine aw_callV_I K (tX7_isFined l g sta _ _ (H.2.2.2.2.1 _)) rfl (by decide) fX7_isFined lX7_128 dX7_roomOf_92 rfl clsX7 rfl (Nat.le_of_ble_eq_true rfl) ?_
        refine aw_if_eq (tgt := 104) K dX7_roomOf_95 (by decide) (fun b95 => ?_) (fun b95 => ?_)
        · refine aw_il2 K dX7_roomOf_104 ?_
          refine aw_iret K rfl dX7_roomOf_105 ?_
          refine ⟨?_, rfl⟩
          rw [rmV, if_neg (fun q => q.elim (fun z => z b11) (fun z => z b25)), if_neg (fun q => q.elim (bI_0.mp b82) (bI_0.mp b95))]
          rfl
        · refine aw_il2 K dX7_roomOf_98 ?_
          refine aw_iconst (v := 2) K dX7_roomOf_99 (by decide) ?_
          refine aw_idiv K dX7_roomOf_100 (by decide) ?_
          refine aw_goto (tgt := 105) K dX7_roomOf_101 (by decide) ?_
          refine aw_iret K rfl dX7_roomOf_105 ?_
          refine ⟨?_, rfl⟩
          rw [rmV, if_neg (fun q => q.elim (fun z => z b11) (fun z => z b25)), if_pos (show h.1 0 12 < h.1 4 (h.1 6 a.toNatClampNeg).toNatClampNeg ∨ h.1 0 12 < h.1 4 (h.1 7 a.toNatClampNeg).toNatClampNeg from Or.inr (bI_1.mp b95))]
          rfl
    · refine aw_iconst (v := 0) K dX7_roomOf_28 (by decide) ?_
      refine aw_iret K rfl dX7_roomOf_29 ?_
      refine ⟨?_, rfl⟩
      rw [rmV, if_pos (show ¬ h.1 3 (h.1 6 a.toNatClampNeg).toNatClampNeg = 0 ∨ ¬ h.1 3 (h.1 7 a.toNatClampNeg).toNatClampNeg = 0 from Or.inr b25)]

def bitsV (v : Int32) : Int32 := sumU (fun k => (v >>> (nI k &&& 31)) &&& 1) 24
set_option maxHeartbeats 4000000 in
set_option maxRecDepth 100000 in
theorem lpX7_bits {l : Launch} {g : Geo} {sta : Nat → Nat} {k : KT} (K : AOK (wM l g sta) mX7_bits k) (h : HS) (v : Int32) :
    ∀ (n i : Nat) (acc : Int32), i ≤ 24 → 24 - i < n → acc = sumU (fun k => (v >>> (nI k &&& 31)) &&& 1) i → AW (wM l g sta) (DI (bitsV v) h) 1 mX7_bits k 4 [some (.int v), some (.int acc), some (.int (nI i))] [] h := by
  intro n
  induction n with
  | zero => intro i acc h1 h2; omega
  | succ n ih =>
    intro i acc h1 h2 hacc
    refine aw_il2 K dX7_bits_4 ?_
    refine aw_bipush (v := 24) K dX7_bits_5 (by decide) ?_
    refine aw_icmp_ge (tgt := 24) K dX7_bits_7 (by decide) (fun b7 => ?_) (fun b7 => ?_)
    · have hiN : i = 24 := by
        have := (nI_leI (a := 24) (by omega) (by omega : i < 2 ^ 31)).mp b7
        omega
      subst hiN
      refine aw_il1 K dX7_bits_24 ?_
      refine aw_iret K rfl dX7_bits_25 ?_
      refine ⟨?_, rfl⟩
      rw [hacc, bitsV]
    · have hlt : i < 24 := by
        rcases Nat.lt_or_ge i 24 with q | q
        · exact q
        · exact absurd (nI_le (a := 24) q (by omega)) b7
      refine aw_il1 K dX7_bits_10 ?_
      refine aw_il0 K dX7_bits_11 ?_
      refine aw_il2 K dX7_bits_12 ?_
      refine aw_ishr K dX7_bits_13 ?_
      refine aw_iconst (v := 1) K dX7_bits_14 (by decide) ?_
      refine aw_iand K dX7_bits_15 ?_
      refine aw_iadd K dX7_bits_16 ?_
      refine aw_is1 K dX7_bits_17 (by decide) rfl ?_
      refine aw_ii2 (v := _ + 1) K dX7_bits_18 rfl (by decide) rfl ?_
      refine aw_goto (tgt := 4) K dX7_bits_21 (by decide) ?_
      rw [nI_1]
      exact ih (i + 1) _ (by omega) (by omega) (by rw [hacc]; rfl)
set_option maxHeartbeats 4000000 in
set_option maxRecDepth 100000 in
theorem tX7_bits (l : Launch) (g : Geo) (sta : Nat → Nat) (h : HS) (v : Int32) : CT (wM l g sta) 1 mX7_bits [.int v] h (DI (bitsV v) h) := by
  refine CT.at [some (.int v), none, none] 2 rfl (by decide) (Nat.le_of_ble_eq_true rfl) (fun k K => ?_)
  refine aw_iconst (v := 0) K dX7_bits_0 (by decide) ?_
  refine aw_is1 K dX7_bits_1 (by decide) rfl ?_
  refine aw_iconst (v := 0) K dX7_bits_2 (by decide) ?_
  refine aw_is2 K dX7_bits_3 (by decide) rfl ?_
  exact lpX7_bits K h v 25 0 0 (by omega) (by omega) rfl

def nameM (h : HS) (a : Int32) : Int32 × HS := if 0 ≤ a ∧ a ≤ 999 then (if h.1 0 0 = 12 then (-3, h) else (h.1 0 0 + 1 - 1, setI (setI h 1 (h.1 0 0).toNatClampNeg a) 0 0 (h.1 0 0 + 1))) else (-1, h)
def seedM (h : HS) (a b : Int32) : Int32 × HS := if 0 ≤ a ∧ a ≤ h.1 0 0 - 1 then (bI (¬ h.1 2 a.toNatClampNeg = 0), setI h 2 a.toNatClampNeg (vp_nar .boolean b)) else (-1, h)
def pledM (h : HS) (a b : Int32) : Int32 × HS := if (0 ≤ a ∧ a ≤ h.1 0 0 - 1) ∧ (1 ≤ b ∧ b ≤ 999) then (if h.1 3 a.toNatClampNeg = 0 then (plV (setI h 5 a.toNatClampNeg (h.1 5 a.toNatClampNeg + b)).1 a.toNatClampNeg, setI h 5 a.toNatClampNeg (h.1 5 a.toNatClampNeg + b)) else (-2, h)) else (-1, h)
def tieM (h : HS) (a b c e : Int32) : Int32 × HS := if ((0 ≤ a ∧ a ≤ h.1 0 0 - 1) ∧ (0 ≤ b ∧ b ≤ h.1 0 0 - 1) ∧ ¬ a = b) ∧ (1 ≤ c ∧ c ≤ 999) ∧ (0 ≤ e ∧ e ≤ 3) then (if h.1 0 6 = 24 then (-3, h) else (if h.1 3 a.toNatClampNeg = 0 ∧ h.1 3 b.toNatClampNeg = 0 then (h.1 0 6 + 1 - 1, setI (setI (setI (setI (setI (setI h 6 (h.1 0 6).toNatClampNeg a) 7 (h.1 0 6).toNatClampNeg b) 8 (h.1 0 6).toNatClampNeg c) 9 (h.1 0 6).toNatClampNeg e) 10 (h.1 0 6).toNatClampNeg (h.1 0 12)) 0 6 (h.1 0 6 + 1)) else (-2, h))) else (-1, h)
def renM (h : HS) (a : Int32) : Int32 × HS := if 0 ≤ a ∧ a ≤ h.1 0 6 - 1 then (if ¬ h.1 3 (h.1 6 a.toNatClampNeg).toNatClampNeg = 0 ∨ ¬ h.1 3 (h.1 7 a.toNatClampNeg).toNatClampNeg = 0 then (-2, h) else (h.1 0 12 - h.1 10 a.toNatClampNeg, setI h 10 a.toNatClampNeg (h.1 0 12))) else (-1, h)
def dayM (h : HS) (a : Int32) : Int32 × HS := if h.1 0 12 ≤ a ∧ a ≤ 9999 then (h.1 0 12, setI h 0 12 a) else (-1, h)
def endM (h : HS) (a : Int32) : Int32 × HS := if 0 ≤ a ∧ a ≤ h.1 0 17 then (h.1 0 17, setI h 0 17 a) else (-1, h)
theorem inE {x : Int32} {N m : Nat} (hx : x = nI N) (hN : N ≤ m) (hm : m < 2 ^ 31) (h : ¬ x = nI m) : vp_in x m := by
  subst hx
  refine vp_in_nI ?_ hm
  rcases Nat.lt_or_ge N m with q | q
  · exact q
  · obtain rfl : N = m := by omega
    exact absurd rfl h
set_option maxHeartbeats 4000000 in
set_option maxRecDepth 100000 in
theorem tX7_name (l : Launch) (g : Geo) (sta : Nat → Nat) (h : HS) (a : Int32) {N T Wn : Nat} (H : MW h N T Wn) : CT (wM l g sta) 7 mX7_name [.ref (g.2.1 0), .int a] h (DP (nameM h a)) := by
  refine CT.at [some (.ref (g.2.1 0)), some (.int a)] 0 rfl (by decide) (Nat.le_of_ble_eq_true rfl) (fun k K => ?_)
  refine aw_il1 K dX7_name_0 ?_
  refine aw_i2l K dX7_name_1 ?_
  refine aw_lconst (v := 0) K dX7_name_2 (by decide) ?_
  refine aw_ldc2 K qX7_109 dX7_name_3 ?_
  refine aw_callS_I K (in32 l g sta _ _ (0) (999) (by decide) (by decide)) rfl (by decide) fX7_in lX7_102 dX7_name_6 rfl (Nat.le_of_ble_eq_true rfl) ?_
  refine aw_if_ne (tgt := 14) K dX7_name_9 (by decide) (fun b9 => ?_) (fun b9 => ?_)
  · refine aw_al0 K dX7_name_14 ?_
    refine aw_getI K gX7_98 dX7_name_15 rfl rfl ?_
    refine aw_bipush (v := 12) K dX7_name_18 (by decide) ?_
    refine aw_icmp_ne (tgt := 26) K dX7_name_20 (by decide) (fun b20 => ?_) (fun b20 => ?_)
    · have hc : vp_in (h.1 0 0) 12 := inE H.1.1 H.1.2 (by decide) b20
      refine aw_al0 K dX7_name_26 ?_
      refine aw_getR K gX7_7 dX7_name_27 rfl rfl ?_
      refine aw_al0 K dX7_name_30 ?_
      refine aw_getI K gX7_98 dX7_name_31 rfl rfl ?_
      refine aw_il1 K dX7_name_34 ?_
      refine aw_iast K dX7_name_35 rfl hc ?_
      refine aw_al0 K dX7_name_36 ?_
      refine aw_dup K dX7_name_37 rfl ?_
      refine aw_getI K gX7_98 dX7_name_38 rfl rfl ?_
      refine aw_iconst (v := 1) K dX7_name_41 (by decide) ?_
      refine aw_iadd K dX7_name_42 ?_
      refine aw_putI K gX7_98 fpX7_0 dX7_name_43 rfl rfl ?_
      refine aw_al0 K dX7_name_46 ?_
      refine aw_getI K gX7_98 dX7_name_47 rfl rfl ?_
      refine aw_iconst (v := 1) K dX7_name_50 (by decide) ?_
      refine aw_isub K dX7_name_51 ?_
      refine aw_iret K rfl dX7_name_52 ?_
      exact DPi (by rw [nameM, if_pos (bI_1.mp b9), if_neg b20]; rfl)
    · refine aw_bipush (v := (-3)) K dX7_name_23 (by decide) ?_
      refine aw_iret K rfl dX7_name_25 ?_
      exact DPi (by rw [nameM, if_pos (bI_1.mp b9), if_pos b20])
  · refine aw_iconst (v := (-1)) K dX7_name_12 (by decide) ?_
    refine aw_iret K rfl dX7_name_13 ?_
    exact DPi (by rw [nameM, if_neg (bI_0.mp b9)])

set_option maxHeartbeats 4000000 in
set_option maxRecDepth 100000 in
theorem tX7_seed (l : Launch) (g : Geo) (sta : Nat → Nat) (h : HS) (a b : Int32) {N T Wn : Nat} (H : MW h N T Wn) : CT (wM l g sta) 7 mX7_seed [.ref (g.2.1 0), .int a, .int b] h (DP (seedM h a b)) := by
  refine CT.at [some (.ref (g.2.1 0)), some (.int a), some (.int b), none] 1 rfl (by decide) (Nat.le_of_ble_eq_true rfl) (fun k K => ?_)
  refine aw_al0 K dX7_seed_0 ?_
  refine aw_il1 K dX7_seed_1 ?_
  refine aw_callV_I K (tX7_isName l g sta _ _) rfl (by decide) fX7_isName lX7_111 dX7_seed_2 rfl clsX7 rfl (Nat.le_of_ble_eq_true rfl) ?_
  refine aw_if_ne (tgt := 10) K dX7_seed_5 (by decide) (fun b5 => ?_) (fun b5 => ?_)
  · have ha : vp_in a 12 := inN H.1.1 H.1.2 (by decide) (bI_1.mp b5)
    refine aw_al0 K dX7_seed_10 ?_
    refine aw_getR K gX7_13 dX7_seed_11 rfl rfl ?_
    refine aw_il1 K dX7_seed_14 ?_
    refine aw_zald K dX7_seed_15 rfl ha ?_
    refine aw_if_eq (tgt := 23) K dX7_seed_16 (by decide) (fun b16 => ?_) (fun b16 => ?_)
    · refine aw_iconst (v := 0) K dX7_seed_23 (by decide) ?_
      refine aw_is3 K dX7_seed_24 (by decide) rfl ?_
      refine aw_al0 K dX7_seed_25 ?_
      refine aw_getR K gX7_13 dX7_seed_26 rfl rfl ?_
      refine aw_il1 K dX7_seed_29 ?_
      refine aw_il2 K dX7_seed_30 ?_
      refine aw_zast K dX7_seed_31 rfl ha ?_
      refine aw_il3 K dX7_seed_32 ?_
      refine aw_iret K rfl dX7_seed_33 ?_
      exact DPi (by rw [seedM, if_pos (bI_1.mp b5), bI_f (fun q => q b16)])
    · refine aw_iconst (v := 1) K dX7_seed_19 (by decide) ?_
      refine aw_goto (tgt := 24) K dX7_seed_20 (by decide) ?_
      refine aw_is3 K dX7_seed_24 (by decide) rfl ?_
      refine aw_al0 K dX7_seed_25 ?_
      refine aw_getR K gX7_13 dX7_seed_26 rfl rfl ?_
      refine aw_il1 K dX7_seed_29 ?_
      refine aw_il2 K dX7_seed_30 ?_
      refine aw_zast K dX7_seed_31 rfl ha ?_
      refine aw_il3 K dX7_seed_32 ?_
      refine aw_iret K rfl dX7_seed_33 ?_
      exact DPi (by rw [seedM, if_pos (bI_1.mp b5), bI_t b16])
  · refine aw_iconst (v := (-1)) K dX7_seed_8 (by decide) ?_
    refine aw_iret K rfl dX7_seed_9 ?_
    exact DPi (by rw [seedM, if_neg (bI_0.mp b5)])

set_option maxHeartbeats 4000000 in
set_option maxRecDepth 100000 in
theorem tX7_pledge (l : Launch) (g : Geo) (sta : Nat → Nat) (h : HS) (a b : Int32) {N T Wn : Nat} (H : MW h N T Wn) : CT (wM l g sta) 7 mX7_pledge [.ref (g.2.1 0), .int a, .int b] h (DP (pledM h a b)) := by
  refine CT.at [some (.ref (g.2.1 0)), some (.int a), some (.int b)] 0 rfl (by decide) (Nat.le_of_ble_eq_true rfl) (fun k K => ?_)
  refine aw_al0 K dX7_pledge_0 ?_
  refine aw_il1 K dX7_pledge_1 ?_
  refine aw_callV_I K (tX7_isName l g sta _ _) rfl (by decide) fX7_isName lX7_111 dX7_pledge_2 rfl clsX7 rfl (Nat.le_of_ble_eq_true rfl) ?_
  refine aw_if_eq (tgt := 20) K dX7_pledge_5 (by decide) (fun b5 => ?_) (fun b5 => ?_)
  · refine aw_iconst (v := (-1)) K dX7_pledge_20 (by decide) ?_
    refine aw_iret K rfl dX7_pledge_21 ?_
    exact DPi (by rw [pledM, if_neg (fun q => bI_0.mp b5 q.1)])
  · refine aw_il2 K dX7_pledge_8 ?_
    refine aw_i2l K dX7_pledge_9 ?_
    refine aw_lconst (v := 1) K dX7_pledge_10 (by decide) ?_
    refine aw_ldc2 K qX7_109 dX7_pledge_11 ?_
    refine aw_callS_I K (in32 l g sta _ _ (1) (999) (by decide) (by decide)) rfl (by decide) fX7_in lX7_102 dX7_pledge_14 rfl (Nat.le_of_ble_eq_true rfl) ?_
    refine aw_if_ne (tgt := 22) K dX7_pledge_17 (by decide) (fun b17 => ?_) (fun b17 => ?_)
    · have ha : vp_in a 12 := inN H.1.1 H.1.2 (by decide) (bI_1.mp b5)
      refine aw_al0 K dX7_pledge_22 ?_
      refine aw_getR K gX7_17 dX7_pledge_23 rfl rfl ?_
      refine aw_il1 K dX7_pledge_26 ?_
      refine aw_zald K dX7_pledge_27 rfl ha ?_
      refine aw_if_eq (tgt := 34) K dX7_pledge_28 (by decide) (fun b28 => ?_) (fun b28 => ?_)
      · refine aw_al0 K dX7_pledge_34 ?_
        refine aw_getR K gX7_23 dX7_pledge_35 rfl rfl ?_
        refine aw_il1 K dX7_pledge_38 ?_
        refine aw_dup2_11 K dX7_pledge_39 rfl rfl ?_
        refine aw_iald K dX7_pledge_40 rfl ha ?_
        refine aw_il2 K dX7_pledge_41 ?_
        refine aw_iadd K dX7_pledge_42 ?_
        refine aw_iast K dX7_pledge_43 rfl ha ?_
        refine aw_al0 K dX7_pledge_44 ?_
        refine aw_il1 K dX7_pledge_45 ?_
        refine aw_callV_I K (tX7_pledged l g sta _ _ ha) rfl (by decide) fX7_pledged lX7_115 dX7_pledge_46 rfl clsX7 rfl (Nat.le_of_ble_eq_true rfl) ?_
        refine aw_iret K rfl dX7_pledge_49 ?_
        exact DPi (by rw [pledM, if_pos ⟨bI_1.mp b5, bI_1.mp b17⟩, if_pos b28])
      · refine aw_bipush (v := (-2)) K dX7_pledge_31 (by decide) ?_
        refine aw_iret K rfl dX7_pledge_33 ?_
        exact DPi (by rw [pledM, if_pos ⟨bI_1.mp b5, bI_1.mp b17⟩, if_neg b28])
    · refine aw_iconst (v := (-1)) K dX7_pledge_20 (by decide) ?_
      refine aw_iret K rfl dX7_pledge_21 ?_
      exact DPi (by rw [pledM, if_neg (fun q => bI_0.mp b17 q.2)])

set_option maxHeartbeats 4000000 in
set_option maxRecDepth 100000 in
theorem tX7_tie (l : Launch) (g : Geo) (sta : Nat → Nat) (h : HS) (a b c e : Int32) {N T Wn : Nat} (H : MW h N T Wn) : CT (wM l g sta) 7 mX7_tie [.ref (g.2.1 0), .int a, .int b, .int c, .int e] h (DP (tieM h a b c e)) := by
  refine CT.at [some (.ref (g.2.1 0)), some (.int a), some (.int b), some (.int c), some (.int e)] 0 rfl (by decide) (Nat.le_of_ble_eq_true rfl) (fun k K => ?_)
  refine aw_al0 K dX7_tie_0 ?_
  refine aw_il1 K dX7_tie_1 ?_
  refine aw_callV_I K (tX7_isName l g sta _ _) rfl (by decide) fX7_isName lX7_111 dX7_tie_2 rfl clsX7 rfl (Nat.le_of_ble_eq_true rfl) ?_
  refine aw_if_eq (tgt := 46) K dX7_tie_5 (by decide) (fun b5 => ?_) (fun b5 => ?_)
  · refine aw_iconst (v := (-1)) K dX7_tie_46 (by decide) ?_
    refine aw_iret K rfl dX7_tie_47 ?_
    exact DPi (by rw [tieM, if_neg (fun q => bI_0.mp b5 q.1.1)])
  · refine aw_al0 K dX7_tie_8 ?_
    refine aw_il2 K dX7_tie_9 ?_
    refine aw_callV_I K (tX7_isName l g sta _ _) rfl (by decide) fX7_isName lX7_111 dX7_tie_10 rfl clsX7 rfl (Nat.le_of_ble_eq_true rfl) ?_
    refine aw_if_eq (tgt := 46) K dX7_tie_13 (by decide) (fun b13 => ?_) (fun b13 => ?_)
    · refine aw_iconst (v := (-1)) K dX7_tie_46 (by decide) ?_
      refine aw_iret K rfl dX7_tie_47 ?_
      exact DPi (by rw [tieM, if_neg (fun q => bI_0.mp b13 q.1.2.1)])
    · refine aw_il1 K dX7_tie_16 ?_
      refine aw_il2 K dX7_tie_17 ?_
      refine aw_icmp_eq (tgt := 46) K dX7_tie_18 (by decide) (fun b18 => ?_) (fun b18 => ?_)
      · refine aw_iconst (v := (-1)) K dX7_tie_46 (by decide) ?_
        refine aw_iret K rfl dX7_tie_47 ?_
        exact DPi (by rw [tieM, if_neg (fun q => q.1.2.2 b18)])
      · refine aw_il3 K dX7_tie_21 ?_
        refine aw_i2l K dX7_tie_22 ?_
        refine aw_lconst (v := 1) K dX7_tie_23 (by decide) ?_
        refine aw_ldc2 K qX7_109 dX7_tie_24 ?_
        refine aw_callS_I K (in32 l g sta _ _ (1) (999) (by decide) (by decide)) rfl (by decide) fX7_in lX7_102 dX7_tie_27 rfl (Nat.le_of_ble_eq_true rfl) ?_
        refine aw_if_eq (tgt := 46) K dX7_tie_30 (by decide) (fun b30 => ?_) (fun b30 => ?_)
        · refine aw_iconst (v := (-1)) K dX7_tie_46 (by decide) ?_
          refine aw_iret K rfl dX7_tie_47 ?_
          exact DPi (by rw [tieM, if_neg (fun q => bI_0.mp b30 q.2.1)])
        · refine aw_il4 K dX7_tie_33 ?_
          refine aw_i2l K dX7_tie_35 ?_
          refine aw_lconst (v := 0) K dX7_tie_36 (by decide) ?_
          refine aw_ldc2 K qX7_119 dX7_tie_37 ?_
          refine aw_callS_I K (in32 l g sta _ _ (0) (3) (by decide) (by decide)) rfl (by decide) fX7_in lX7_102 dX7_tie_40 rfl (Nat.le_of_ble_eq_true rfl) ?_
          refine aw_if_ne (tgt := 48) K dX7_tie_43 (by decide) (fun b43 => ?_) (fun b43 => ?_)
          · have ha : vp_in a 12 := inN H.1.1 H.1.2 (by decide) (bI_1.mp b5)
            have hb : vp_in b 12 := inN H.1.1 H.1.2 (by decide) (bI_1.mp b13)
            refine aw_al0 K dX7_tie_48 ?_
            refine aw_getI K gX7_121 dX7_tie_49 rfl rfl ?_
            refine aw_bipush (v := 24) K dX7_tie_52 (by decide) ?_
            refine aw_icmp_ne (tgt := 60) K dX7_tie_54 (by decide) (fun b54 => ?_) (fun b54 => ?_)
            · refine aw_al0 K dX7_tie_60 ?_
              refine aw_getR K gX7_17 dX7_tie_61 rfl rfl ?_
              refine aw_il1 K dX7_tie_64 ?_
              refine aw_zald K dX7_tie_65 rfl ha ?_
              refine aw_if_ne (tgt := 78) K dX7_tie_66 (by decide) (fun b66 => ?_) (fun b66 => ?_)
              · refine aw_bipush (v := (-2)) K dX7_tie_78 (by decide) ?_
                refine aw_iret K rfl dX7_tie_80 ?_
                exact DPi (by rw [tieM, if_pos ⟨⟨bI_1.mp b5, bI_1.mp b13, b18⟩, bI_1.mp b30, bI_1.mp b43⟩, if_neg b54, if_neg (fun q => b66 q.1)])
              · refine aw_al0 K dX7_tie_69 ?_
                refine aw_getR K gX7_17 dX7_tie_70 rfl rfl ?_
                refine aw_il2 K dX7_tie_73 ?_
                refine aw_zald K dX7_tie_74 rfl hb ?_
                refine aw_if_eq (tgt := 81) K dX7_tie_75 (by decide) (fun b75 => ?_) (fun b75 => ?_)
                · have hc : vp_in (h.1 0 6) 24 := inE H.2.1.1 H.2.1.2 (by decide) b54
                  refine aw_al0 K dX7_tie_81 ?_
                  refine aw_getR K gX7_26 dX7_tie_82 rfl rfl ?_
                  refine aw_al0 K dX7_tie_85 ?_
                  refine aw_getI K gX7_121 dX7_tie_86 rfl rfl ?_
                  refine aw_il1 K dX7_tie_89 ?_
                  refine aw_iast K dX7_tie_90 rfl hc ?_
                  refine aw_al0 K dX7_tie_91 ?_
                  refine aw_getR K gX7_29 dX7_tie_92 rfl rfl ?_
                  refine aw_al0 K dX7_tie_95 ?_
                  refine aw_getI K gX7_121 dX7_tie_96 rfl rfl ?_
                  refine aw_il2 K dX7_tie_99 ?_
                  refine aw_iast K dX7_tie_100 rfl hc ?_
                  refine aw_al0 K dX7_tie_101 ?_
                  refine aw_getR K gX7_32 dX7_tie_102 rfl rfl ?_
                  refine aw_al0 K dX7_tie_105 ?_
                  refine aw_getI K gX7_121 dX7_tie_106 rfl rfl ?_
                  refine aw_il3 K dX7_tie_109 ?_
                  refine aw_iast K dX7_tie_110 rfl hc ?_
                  refine aw_al0 K dX7_tie_111 ?_
                  refine aw_getR K gX7_35 dX7_tie_112 rfl rfl ?_
                  refine aw_al0 K dX7_tie_115 ?_
                  refine aw_getI K gX7_121 dX7_tie_116 rfl rfl ?_
                  refine aw_il4 K dX7_tie_119 ?_
                  refine aw_iast K dX7_tie_121 rfl hc ?_
                  refine aw_al0 K dX7_tie_122 ?_
                  refine aw_getR K gX7_38 dX7_tie_123 rfl rfl ?_
                  refine aw_al0 K dX7_tie_126 ?_
                  refine aw_getI K gX7_121 dX7_tie_127 rfl rfl ?_
                  refine aw_al0 K dX7_tie_130 ?_
                  refine aw_getI K gX7_106 dX7_tie_131 rfl rfl ?_
                  refine aw_iast K dX7_tie_134 rfl hc ?_
                  refine aw_al0 K dX7_tie_135 ?_
                  refine aw_dup K dX7_tie_136 rfl ?_
                  refine aw_getI K gX7_121 dX7_tie_137 rfl rfl ?_
                  refine aw_iconst (v := 1) K dX7_tie_140 (by decide) ?_
                  refine aw_iadd K dX7_tie_141 ?_
                  refine aw_putI K gX7_121 fpX7_6 dX7_tie_142 rfl rfl ?_
                  refine aw_al0 K dX7_tie_145 ?_
                  refine aw_getI K gX7_121 dX7_tie_146 rfl rfl ?_
                  refine aw_iconst (v := 1) K dX7_tie_149 (by decide) ?_
                  refine aw_isub K dX7_tie_150 ?_
                  refine aw_iret K rfl dX7_tie_151 ?_
                  exact DPi (by rw [tieM, if_pos ⟨⟨bI_1.mp b5, bI_1.mp b13, b18⟩, bI_1.mp b30, bI_1.mp b43⟩, if_neg b54, if_pos ⟨b66, b75⟩]; rfl)
                · refine aw_bipush (v := (-2)) K dX7_tie_78 (by decide) ?_
                  refine aw_iret K rfl dX7_tie_80 ?_
                  exact DPi (by rw [tieM, if_pos ⟨⟨bI_1.mp b5, bI_1.mp b13, b18⟩, bI_1.mp b30, bI_1.mp b43⟩, if_neg b54, if_neg (fun q => b75 q.2)])
            · refine aw_bipush (v := (-3)) K dX7_tie_57 (by decide) ?_
              refine aw_iret K rfl dX7_tie_59 ?_
              exact DPi (by rw [tieM, if_pos ⟨⟨bI_1.mp b5, bI_1.mp b13, b18⟩, bI_1.mp b30, bI_1.mp b43⟩, if_pos b54])
          · refine aw_iconst (v := (-1)) K dX7_tie_46 (by decide) ?_
            refine aw_iret K rfl dX7_tie_47 ?_
            exact DPi (by rw [tieM, if_neg (fun q => bI_0.mp b43 q.2.2)])

set_option maxHeartbeats 4000000 in
set_option maxRecDepth 100000 in
theorem tX7_renew (l : Launch) (g : Geo) (sta : Nat → Nat) (h : HS) (a : Int32) {N T Wn : Nat} (H : MW h N T Wn) : CT (wM l g sta) 7 mX7_renew [.ref (g.2.1 0), .int a] h (DP (renM h a)) := by
  refine CT.at [some (.ref (g.2.1 0)), some (.int a), none] 1 rfl (by decide) (Nat.le_of_ble_eq_true rfl) (fun k K => ?_)
  refine aw_al0 K dX7_renew_0 ?_
  refine aw_il1 K dX7_renew_1 ?_
  refine aw_callV_I K (tX7_isTie l g sta _ _) rfl (by decide) fX7_isTie lX7_131 dX7_renew_2 rfl clsX7 rfl (Nat.le_of_ble_eq_true rfl) ?_
  refine aw_if_ne (tgt := 10) K dX7_renew_5 (by decide) (fun b5 => ?_) (fun b5 => ?_)
  · have ha : vp_in a 24 := inN H.2.1.1 H.2.1.2 (by decide) (bI_1.mp b5)
    refine aw_al0 K dX7_renew_10 ?_
    refine aw_getR K gX7_17 dX7_renew_11 rfl rfl ?_
    refine aw_al0 K dX7_renew_14 ?_
    refine aw_getR K gX7_26 dX7_renew_15 rfl rfl ?_
    refine aw_il1 K dX7_renew_18 ?_
    refine aw_iald K dX7_renew_19 rfl ha ?_
    refine aw_zald K dX7_renew_20 rfl (H.2.2.2.1 _) ?_
    refine aw_if_ne (tgt := 38) K dX7_renew_21 (by decide) (fun b21 => ?_) (fun b21 => ?_)
    · refine aw_bipush (v := (-2)) K dX7_renew_38 (by decide) ?_
      refine aw_iret K rfl dX7_renew_40 ?_
      exact DPi (by rw [renM, if_pos (bI_1.mp b5), if_pos (show ¬ h.1 3 (h.1 6 a.toNatClampNeg).toNatClampNeg = 0 ∨ ¬ h.1 3 (h.1 7 a.toNatClampNeg).toNatClampNeg = 0 from Or.inl b21)])
    · refine aw_al0 K dX7_renew_24 ?_
      refine aw_getR K gX7_17 dX7_renew_25 rfl rfl ?_
      refine aw_al0 K dX7_renew_28 ?_
      refine aw_getR K gX7_29 dX7_renew_29 rfl rfl ?_
      refine aw_il1 K dX7_renew_32 ?_
      refine aw_iald K dX7_renew_33 rfl ha ?_
      refine aw_zald K dX7_renew_34 rfl (H.2.2.2.2.1 _) ?_
      refine aw_if_eq (tgt := 41) K dX7_renew_35 (by decide) (fun b35 => ?_) (fun b35 => ?_)
      · refine aw_al0 K dX7_renew_41 ?_
        refine aw_getI K gX7_106 dX7_renew_42 rfl rfl ?_
        refine aw_al0 K dX7_renew_45 ?_
        refine aw_getR K gX7_38 dX7_renew_46 rfl rfl ?_
        refine aw_il1 K dX7_renew_49 ?_
        refine aw_iald K dX7_renew_50 rfl ha ?_
        refine aw_isub K dX7_renew_51 ?_
        refine aw_is2 K dX7_renew_52 (by decide) rfl ?_
        refine aw_al0 K dX7_renew_53 ?_
        refine aw_getR K gX7_38 dX7_renew_54 rfl rfl ?_
        refine aw_il1 K dX7_renew_57 ?_
        refine aw_al0 K dX7_renew_58 ?_
        refine aw_getI K gX7_106 dX7_renew_59 rfl rfl ?_
        refine aw_iast K dX7_renew_62 rfl ha ?_
        refine aw_il2 K dX7_renew_63 ?_
        refine aw_iret K rfl dX7_renew_64 ?_
        exact DPi (by rw [renM, if_pos (bI_1.mp b5), if_neg (fun q => q.elim (fun z => z b21) (fun z => z b35))])
      · refine aw_bipush (v := (-2)) K dX7_renew_38 (by decide) ?_
        refine aw_iret K rfl dX7_renew_40 ?_
        exact DPi (by rw [renM, if_pos (bI_1.mp b5), if_pos (show ¬ h.1 3 (h.1 6 a.toNatClampNeg).toNatClampNeg = 0 ∨ ¬ h.1 3 (h.1 7 a.toNatClampNeg).toNatClampNeg = 0 from Or.inr b35)])
  · refine aw_iconst (v := (-1)) K dX7_renew_8 (by decide) ?_
    refine aw_iret K rfl dX7_renew_9 ?_
    exact DPi (by rw [renM, if_neg (bI_0.mp b5)])

set_option maxHeartbeats 4000000 in
set_option maxRecDepth 100000 in
theorem tX7_day (l : Launch) (g : Geo) (sta : Nat → Nat) (h : HS) (a : Int32) : CT (wM l g sta) 7 mX7_day [.ref (g.2.1 0), .int a] h (DP (dayM h a)) := by
  refine CT.at [some (.ref (g.2.1 0)), some (.int a), none] 1 rfl (by decide) (Nat.le_of_ble_eq_true rfl) (fun k K => ?_)
  refine aw_il1 K dX7_day_0 ?_
  refine aw_i2l K dX7_day_1 ?_
  refine aw_al0 K dX7_day_2 ?_
  refine aw_getI K gX7_106 dX7_day_3 rfl rfl ?_
  refine aw_i2l K dX7_day_6 ?_
  refine aw_ldc2 K qX7_147 dX7_day_7 ?_
  refine aw_callS_I K (in32 l g sta _ _ (h.1 0 12) (9999) rfl (by decide)) rfl (by decide) fX7_in lX7_102 dX7_day_10 rfl (Nat.le_of_ble_eq_true rfl) ?_
  refine aw_if_ne (tgt := 18) K dX7_day_13 (by decide) (fun b13 => ?_) (fun b13 => ?_)
  · refine aw_al0 K dX7_day_18 ?_
    refine aw_getI K gX7_106 dX7_day_19 rfl rfl ?_
    refine aw_is2 K dX7_day_22 (by decide) rfl ?_
    refine aw_al0 K dX7_day_23 ?_
    refine aw_il1 K dX7_day_24 ?_
    refine aw_putI K gX7_106 fpX7_12 dX7_day_25 rfl rfl ?_
    refine aw_il2 K dX7_day_28 ?_
    refine aw_iret K rfl dX7_day_29 ?_
    exact DPi (by rw [dayM, if_pos (bI_1.mp b13)])
  · refine aw_iconst (v := (-1)) K dX7_day_16 (by decide) ?_
    refine aw_iret K rfl dX7_day_17 ?_
    exact DPi (by rw [dayM, if_neg (bI_0.mp b13)])

set_option maxHeartbeats 4000000 in
set_option maxRecDepth 100000 in
theorem tX7_end (l : Launch) (g : Geo) (sta : Nat → Nat) (h : HS) (a : Int32) : CT (wM l g sta) 7 mX7_end [.ref (g.2.1 0), .int a] h (DP (endM h a)) := by
  refine CT.at [some (.ref (g.2.1 0)), some (.int a), none] 1 rfl (by decide) (Nat.le_of_ble_eq_true rfl) (fun k K => ?_)
  refine aw_il1 K dX7_end_0 ?_
  refine aw_i2l K dX7_end_1 ?_
  refine aw_lconst (v := 0) K dX7_end_2 (by decide) ?_
  refine aw_al0 K dX7_end_3 ?_
  refine aw_getI K gX7_149 dX7_end_4 rfl rfl ?_
  refine aw_i2l K dX7_end_7 ?_
  refine aw_callS_I K (in32 l g sta _ _ (0) (h.1 0 17) (by decide) rfl) rfl (by decide) fX7_in lX7_102 dX7_end_8 rfl (Nat.le_of_ble_eq_true rfl) ?_
  refine aw_if_ne (tgt := 16) K dX7_end_11 (by decide) (fun b11 => ?_) (fun b11 => ?_)
  · refine aw_al0 K dX7_end_16 ?_
    refine aw_getI K gX7_149 dX7_end_17 rfl rfl ?_
    refine aw_is2 K dX7_end_20 (by decide) rfl ?_
    refine aw_al0 K dX7_end_21 ?_
    refine aw_il1 K dX7_end_22 ?_
    refine aw_putI K gX7_149 fpX7_17 dX7_end_23 rfl rfl ?_
    refine aw_il2 K dX7_end_26 ?_
    refine aw_iret K rfl dX7_end_27 ?_
    exact DPi (by rw [endM, if_pos (bI_1.mp b11)])
  · refine aw_iconst (v := (-1)) K dX7_end_14 (by decide) ?_
    refine aw_iret K rfl dX7_end_15 ?_
    exact DPi (by rw [endM, if_neg (bI_0.mp b11)])

set_option maxHeartbeats 4000000 in
set_option maxRecDepth 100000 in
theorem tX7_fault (l : Launch) (g : Geo) (sta : Nat → Nat) (h : HS) : CT (wM l g sta) 7 mX7_fault [.ref (g.2.1 0)] h (DI (h.1 0 22) h) := by
  refine CT.at [some (.ref (g.2.1 0))] 0 rfl (by decide) (Nat.le_of_ble_eq_true rfl) (fun k K => ?_)
  refine aw_al0 K dX7_fault_0 ?_
  refine aw_getI K gX7_154 dX7_fault_1 rfl rfl ?_
  refine aw_iret K rfl dX7_fault_4 ?_
  exact ⟨rfl, rfl⟩

set_option maxHeartbeats 4000000 in
set_option maxRecDepth 100000 in
theorem tX7_lost (l : Launch) (g : Geo) (sta : Nat → Nat) (h : HS) : CT (wM l g sta) 7 mX7_lost [.ref (g.2.1 0)] h (DI (h.1 0 43) h) := by
  refine CT.at [some (.ref (g.2.1 0))] 0 rfl (by decide) (Nat.le_of_ble_eq_true rfl) (fun k K => ?_)
  refine aw_al0 K dX7_lost_0 ?_
  refine aw_getI K gX7_333 dX7_lost_1 rfl rfl ?_
  refine aw_iret K rfl dX7_lost_4 ?_
  exact ⟨rfl, rfl⟩

set_option maxHeartbeats 4000000 in
set_option maxRecDepth 100000 in
theorem tX7_rule (l : Launch) (g : Geo) (sta : Nat → Nat) (h : HS) (a : Int32) : CT (wM l g sta) 7 mX7_rule [.ref (g.2.1 0), .int a] h (DI (if 0 ≤ a ∧ a ≤ 9 then h.1 11 a.toNatClampNeg else -1) h) := by
  refine CT.at [some (.ref (g.2.1 0)), some (.int a)] 0 rfl (by decide) (Nat.le_of_ble_eq_true rfl) (fun k K => ?_)
  refine aw_il1 K dX7_rule_0 ?_
  refine aw_i2l K dX7_rule_1 ?_
  refine aw_lconst (v := 0) K dX7_rule_2 (by decide) ?_
  refine aw_ldc2 K qX7_207 dX7_rule_3 ?_
  refine aw_callS_I K (in32 l g sta _ _ (0) (9) (by decide) (by decide)) rfl (by decide) fX7_in lX7_102 dX7_rule_6 rfl (Nat.le_of_ble_eq_true rfl) ?_
  refine aw_if_eq (tgt := 21) K dX7_rule_9 (by decide) (fun b9 => ?_) (fun b9 => ?_)
  · refine aw_iconst (v := (-1)) K dX7_rule_21 (by decide) ?_
    refine aw_iret K rfl dX7_rule_22 ?_
    exact ⟨congrArg some (congrArg Value.int (if_neg (bI_0.mp b9)).symm), rfl⟩
  · refine aw_al0 K dX7_rule_12 ?_
    refine aw_getR K gX7_41 dX7_rule_13 rfl rfl ?_
    refine aw_il1 K dX7_rule_16 ?_
    refine aw_iald K dX7_rule_17 rfl (inB (M := 9) (by decide) (bI_1.mp b9)) ?_
    refine aw_goto (tgt := 22) K dX7_rule_18 (by decide) ?_
    refine aw_iret K rfl dX7_rule_22 ?_
    exact ⟨congrArg some (congrArg Value.int (if_pos (bI_1.mp b9)).symm), rfl⟩

def stM (h : HS) (a : Int32) (T : Nat) : Int32 := orU (fun t => if h.1 9 t = 2 ∧ h.1 7 t = a ∧ h.1 3 (h.1 6 t).toNatClampNeg = 0 then (1 : Int32) <<< (h.1 6 t &&& 31) else 0) T
def finM (h : HS) (s : Int32) (i : Nat) : Nat → Int32 := fun j => if j < i ∧ ¬ (s >>> (nI j &&& 31)) &&& 1 = 0 then (if h.1 4 j < h.1 0 12 + h.1 11 8 then h.1 0 12 + h.1 11 8 else h.1 4 j) else h.1 4 j
theorem finM_0 (h : HS) (s : Int32) : finM h s 0 = h.1 4 := by
  funext j
  exact if_neg (fun q => absurd q.1 (Nat.not_lt_zero _))
theorem finM_s (h : HS) (s : Int32) (i : Nat) (q : ¬ (s >>> (nI i &&& 31)) &&& 1 = 0) (v : Int32) (hv : v = if finM h s i i < h.1 0 12 + h.1 11 8 then h.1 0 12 + h.1 11 8 else finM h s i i) : upd (finM h s i) i v = finM h s (i + 1) := by
  subst hv
  have e : finM h s i i = h.1 4 i := if_neg (fun z => absurd z.1 (Nat.lt_irrefl _))
  funext j
  show (if j = i then _ else _) = _
  split
  · rename_i z
    subst z
    rw [e]
    exact (if_pos ⟨Nat.lt_succ_self _, q⟩).symm
  · rename_i z
    unfold finM
    by_cases y : j < i
    · simp only [y, Nat.lt_succ_of_lt y, true_and]
    · rw [if_neg (fun p => y p.1), if_neg (fun p => y (by omega))]
theorem finM_n (h : HS) (s : Int32) (i : Nat) (q : (s >>> (nI i &&& 31)) &&& 1 = 0) : finM h s i = finM h s (i + 1) := by
  funext j
  unfold finM
  by_cases y : j < i
  · simp only [y, Nat.lt_succ_of_lt y, true_and]
  · rw [if_neg (fun p => y p.1)]
    by_cases z : j = i
    · subst z
      rw [if_neg (fun p => p.2 q)]
    · rw [if_neg (fun p => z (by omega))]
def madM (h : HS) (a : Int32) (N T : Nat) : Int32 × HS := if 0 ≤ a ∧ a ≤ h.1 0 0 - 1 then (if h.1 3 a.toNatClampNeg = 0 then (bitsV (stM (setI h 3 a.toNatClampNeg (vp_nar .boolean 1)) a T), setR (setI h 3 a.toNatClampNeg (vp_nar .boolean 1)) 4 (finM (setI h 3 a.toNatClampNeg (vp_nar .boolean 1)) (stM (setI h 3 a.toNatClampNeg (vp_nar .boolean 1)) a T) N)) else (-2, h)) else (-1, h)
theorem and1_01 (x : Int32) : x &&& 1 = 0 ∨ x &&& 1 = 1 := by
  rcases hb : bt x 0 with _ | _
  · exact Or.inl ((b_and1 x).mpr hb)
  · refine Or.inr (b_ext (fun i hi => ?_))
    rw [b_and, b_1 i hi]
    by_cases z : i = 0
    · subst z
      simp [hb]
    · simp [z]
theorem and1_n {x : Int32} : ¬ x &&& 1 = 1 ↔ x &&& 1 = 0 := by
  constructor
  · intro q
    exact (and1_01 x).resolve_right q
  · intro q z
    rw [q] at z
    exact absurd z (by decide)
theorem MW.e {h h' : HS} {N T Wn : Nat} (H : MW h N T Wn) (e : ∀ c, c = 6 ∨ c = 7 ∨ c = 9 ∨ c = 18 ∨ c = 19 → h'.1 c = h.1 c) (e0 : h'.1 0 0 = h.1 0 0) (e6 : h'.1 0 6 = h.1 0 6) (e27 : h'.1 0 27 = h.1 0 27) : MW h' N T Wn := by
  unfold MW
  rw [e 6 (by decide), e 7 (by decide), e 9 (by decide), e 18 (by decide), e 19 (by decide), e0, e6, e27]
  exact H
theorem MW.pt {h : HS} {N T Wn c j : Nat} {v : Int32} (H : MW h N T Wn) (hc : (c == 0 || c == 6 || c == 7 || c == 9 || c == 18 || c == 19) = false) : MW (setI h c j v) N T Wn := by
  have hn : ∀ a, a = 0 ∨ a = 6 ∨ a = 7 ∨ a = 9 ∨ a = 18 ∨ a = 19 → a ≠ c := by
    intro a ha q
    subst q
    rcases ha with rfl | rfl | rfl | rfl | rfl | rfl <;> cases hc
  have h0 : (setI h c j v).1 0 = h.1 0 := setI_w (hn 0 (by decide))
  refine H.e (fun a ha => setI_w (hn a (Or.inr ha))) (by rw [h0]) (by rw [h0]) (by rw [h0])
set_option maxHeartbeats 4000000 in
set_option maxRecDepth 100000 in
theorem lp2X7_made {l : Launch} {g : Geo} {sta : Nat → Nat} {k : KT} (K : AOK (wM l g sta) mX7_made k) (h : HS) (a s : Int32) {N T Wn : Nat} (H : MW h N T Wn) :
    ∀ (n i : Nat), i ≤ N → N - i < n → AW (wM l g sta) (DP (bitsV s, setR h 4 (finM h s N))) 7 mX7_made k 98 [some (.ref (g.2.1 0)), some (.int a), some (.int s), some (.int (nI i))] [] (setR h 4 (finM h s i)) := by
  intro n
  induction n with
  | zero => intro i h1 h2; omega
  | succ n ih =>
    intro i h1 h2
    have hN := H.1.2
    refine aw_il3 K dX7_made_98 ?_
    refine aw_al0 K dX7_made_99 ?_
    refine aw_getI K gX7_98 dX7_made_100 rfl rfl ?_
    rw [show (setR h 4 (finM h s i)).1 0 0 = nI N from H.1.1]
    refine aw_icmp_ge (tgt := 169) K dX7_made_103 (by decide) (fun b103 => ?_) (fun b103 => ?_)
    · have hiN : i = N := by
        have := (nI_leI (a := N) (by omega) (by omega : i < 2 ^ 31)).mp b103
        omega
      subst hiN
      refine aw_il2 K dX7_made_169 ?_
      refine aw_callS_I K (tX7_bits l g sta _ _) rfl (by decide) fX7_bits lX7_144 dX7_made_170 rfl (Nat.le_of_ble_eq_true rfl) ?_
      refine aw_iret K rfl dX7_made_173 ?_
      exact DPi rfl
    · have hlt : i < N := by
        rcases Nat.lt_or_ge i N with q | q
        · exact q
        · exact absurd (nI_le (a := N) q (by omega)) b103
      refine aw_il2 K dX7_made_106 ?_
      refine aw_il3 K dX7_made_107 ?_
      refine aw_ishr K dX7_made_108 ?_
      refine aw_iconst (v := 1) K dX7_made_109 (by decide) ?_
      refine aw_iand K dX7_made_110 ?_
      refine aw_iconst (v := 1) K dX7_made_111 (by decide) ?_
      refine aw_icmp_ne (tgt := 163) K dX7_made_112 (by decide) (fun b112 => ?_) (fun b112 => ?_)
      · refine aw_ii3 (v := _ + 1) K dX7_made_163 rfl (by decide) rfl ?_
        refine aw_goto (tgt := 98) K dX7_made_166 (by decide) ?_
        rw [nI_1, finM_n h s i (and1_n.mp b112)]
        exact ih (i + 1) (by omega) (by omega)
      · refine aw_al0 K dX7_made_115 ?_
        refine aw_getR K gX7_20 dX7_made_116 rfl rfl ?_
        refine aw_il3 K dX7_made_119 ?_
        refine aw_al0 K dX7_made_120 ?_
        refine aw_getI K gX7_106 dX7_made_121 rfl rfl ?_
        refine aw_al0 K dX7_made_124 ?_
        refine aw_getR K gX7_41 dX7_made_125 rfl rfl ?_
        refine aw_bipush (v := 8) K dX7_made_128 (by decide) ?_
        refine aw_iald K dX7_made_130 rfl (vp_in_nI (n := 8) (by decide) (by decide)) ?_
        refine aw_iadd K dX7_made_131 ?_
        refine aw_al0 K dX7_made_132 ?_
        refine aw_getR K gX7_20 dX7_made_133 rfl rfl ?_
        refine aw_il3 K dX7_made_136 ?_
        refine aw_iald K dX7_made_137 rfl (vp_in_nI (by omega) (by decide)) ?_
        rw [nI_clamp (show i < 2 ^ 31 by omega)]
        refine aw_icmp_le (tgt := 156) K dX7_made_138 (by decide) (fun b138 => ?_) (fun b138 => ?_)
        · refine aw_al0 K dX7_made_156 ?_
          refine aw_getR K gX7_20 dX7_made_157 rfl rfl ?_
          refine aw_il3 K dX7_made_160 ?_
          refine aw_iald K dX7_made_161 rfl (vp_in_nI (by omega) (by decide)) ?_
          refine aw_iast K dX7_made_162 rfl (vp_in_nI (by omega) (by decide)) ?_
          refine aw_ii3 (v := _ + 1) K dX7_made_163 rfl (by decide) rfl ?_
          refine aw_goto (tgt := 98) K dX7_made_166 (by decide) ?_
          rw [nI_1, nI_clamp (show i < 2 ^ 31 by omega), set_set]
          refine (show AW _ _ _ _ _ _ _ _ (setR h 4 (upd (finM h s i) i (finM h s i i))) from ?_)
          rw [finM_s h s i (fun q => and1_n.mpr q b112) _ (if_neg (Int32.not_lt.mpr b138)).symm]
          exact ih (i + 1) (by omega) (by omega)
        · refine aw_al0 K dX7_made_141 ?_
          refine aw_getI K gX7_106 dX7_made_142 rfl rfl ?_
          refine aw_al0 K dX7_made_145 ?_
          refine aw_getR K gX7_41 dX7_made_146 rfl rfl ?_
          refine aw_bipush (v := 8) K dX7_made_149 (by decide) ?_
          refine aw_iald K dX7_made_151 rfl (vp_in_nI (n := 8) (by decide) (by decide)) ?_
          refine aw_iadd K dX7_made_152 ?_
          refine aw_goto (tgt := 162) K dX7_made_153 (by decide) ?_
          refine aw_iast K dX7_made_162 rfl (vp_in_nI (by omega) (by decide)) ?_
          refine aw_ii3 (v := _ + 1) K dX7_made_163 rfl (by decide) rfl ?_
          refine aw_goto (tgt := 98) K dX7_made_166 (by decide) ?_
          rw [nI_1, nI_clamp (show i < 2 ^ 31 by omega), set_set]
          refine (show AW _ _ _ _ _ _ _ _ (setR h 4 (upd (finM h s i) i (h.1 0 12 + h.1 11 8))) from ?_)
          rw [finM_s h s i (fun q => and1_n.mpr q b112) _ (if_pos (Int32.not_le.mp b138)).symm]
          exact ih (i + 1) (by omega) (by omega)
set_option maxHeartbeats 4000000 in
set_option maxRecDepth 100000 in
theorem lp1X7_made {l : Launch} {g : Geo} {sta : Nat → Nat} {k : KT} (K : AOK (wM l g sta) mX7_made k) (h : HS) (a : Int32) {N T Wn : Nat} (H : MW h N T Wn) :
    ∀ (n i : Nat) (s : Int32), i ≤ T → T - i < n → s = orU (fun t => if h.1 9 t = 2 ∧ h.1 7 t = a ∧ h.1 3 (h.1 6 t).toNatClampNeg = 0 then (1 : Int32) <<< (h.1 6 t &&& 31) else 0) i → AW (wM l g sta) (DP (bitsV (stM h a T), setR h 4 (finM h (stM h a T) N))) 7 mX7_made k 33 [some (.ref (g.2.1 0)), some (.int a), some (.int s), some (.int (nI i))] [] h := by
  intro n
  induction n with
  | zero => intro i s h1 h2; omega
  | succ n ih =>
    intro i s h1 h2 hacc
    have hT := H.2.1.2
    refine aw_il3 K dX7_made_33 ?_
    refine aw_al0 K dX7_made_34 ?_
    refine aw_getI K gX7_121 dX7_made_35 rfl rfl ?_
    rw [H.2.1.1]
    refine aw_icmp_ge (tgt := 96) K dX7_made_38 (by decide) (fun b38 => ?_) (fun b38 => ?_)
    · have hiN : i = T := by
        have := (nI_leI (a := T) (by omega) (by omega : i < 2 ^ 31)).mp b38
        omega
      subst hiN
      refine aw_iconst (v := 0) K dX7_made_96 (by decide) ?_
      refine aw_is3 K dX7_made_97 (by decide) rfl ?_
      have z := lp2X7_made K h a s H (N + 1) 0 (by omega) (by omega)
      rw [setR_e (finM_0 _ _), hacc] at z
      rw [hacc]
      exact z
    · have hlt : i < T := by
        rcases Nat.lt_or_ge i T with q | q
        · exact q
        · exact absurd (nI_le (a := T) q (by omega)) b38
      refine aw_il2 K dX7_made_41 ?_
      refine aw_al0 K dX7_made_42 ?_
      refine aw_getR K gX7_35 dX7_made_43 rfl rfl ?_
      refine aw_il3 K dX7_made_46 ?_
      refine aw_iald K dX7_made_47 rfl (vp_in_nI (by omega) (by decide)) ?_
      refine aw_iconst (v := 2) K dX7_made_48 (by decide) ?_
      refine aw_icmp_ne (tgt := 87) K dX7_made_49 (by decide) (fun b49 => ?_) (fun b49 => ?_)
      · refine aw_iconst (v := 0) K dX7_made_87 (by decide) ?_
        refine aw_ior K dX7_made_88 ?_
        refine aw_is2 K dX7_made_89 (by decide) rfl ?_
        refine aw_ii3 (v := _ + 1) K dX7_made_90 rfl (by decide) rfl ?_
        refine aw_goto (tgt := 33) K dX7_made_93 (by decide) ?_
        rw [nI_1]
        refine ih (i + 1) _ (by omega) (by omega) ?_
        rw [hacc]
        rw [nI_clamp (show i < 2 ^ 31 by omega)] at *
        show _ = orU (fun t => if h.1 9 t = 2 ∧ h.1 7 t = a ∧ h.1 3 (h.1 6 t).toNatClampNeg = 0 then (1 : Int32) <<< (h.1 6 t &&& 31) else 0) i ||| (fun t => if h.1 9 t = 2 ∧ h.1 7 t = a ∧ h.1 3 (h.1 6 t).toNatClampNeg = 0 then (1 : Int32) <<< (h.1 6 t &&& 31) else 0) i
        exact congrArg (orU (fun t => if h.1 9 t = 2 ∧ h.1 7 t = a ∧ h.1 3 (h.1 6 t).toNatClampNeg = 0 then (1 : Int32) <<< (h.1 6 t &&& 31) else 0) i ||| ·) (if_neg (fun q => b49 q.1)).symm
      · refine aw_al0 K dX7_made_52 ?_
        refine aw_getR K gX7_29 dX7_made_53 rfl rfl ?_
        refine aw_il3 K dX7_made_56 ?_
        refine aw_iald K dX7_made_57 rfl (vp_in_nI (by omega) (by decide)) ?_
        refine aw_il1 K dX7_made_58 ?_
        refine aw_icmp_ne (tgt := 87) K dX7_made_59 (by decide) (fun b59 => ?_) (fun b59 => ?_)
        · refine aw_iconst (v := 0) K dX7_made_87 (by decide) ?_
          refine aw_ior K dX7_made_88 ?_
          refine aw_is2 K dX7_made_89 (by decide) rfl ?_
          refine aw_ii3 (v := _ + 1) K dX7_made_90 rfl (by decide) rfl ?_
          refine aw_goto (tgt := 33) K dX7_made_93 (by decide) ?_
          rw [nI_1]
          refine ih (i + 1) _ (by omega) (by omega) ?_
          rw [hacc]
          rw [nI_clamp (show i < 2 ^ 31 by omega)] at *
          show _ = orU (fun t => if h.1 9 t = 2 ∧ h.1 7 t = a ∧ h.1 3 (h.1 6 t).toNatClampNeg = 0 then (1 : Int32) <<< (h.1 6 t &&& 31) else 0) i ||| (fun t => if h.1 9 t = 2 ∧ h.1 7 t = a ∧ h.1 3 (h.1 6 t).toNatClampNeg = 0 then (1 : Int32) <<< (h.1 6 t &&& 31) else 0) i
          exact congrArg (orU (fun t => if h.1 9 t = 2 ∧ h.1 7 t = a ∧ h.1 3 (h.1 6 t).toNatClampNeg = 0 then (1 : Int32) <<< (h.1 6 t &&& 31) else 0) i ||| ·) (if_neg (fun q => b59 q.2.1)).symm
        · refine aw_al0 K dX7_made_62 ?_
          refine aw_getR K gX7_17 dX7_made_63 rfl rfl ?_
          refine aw_al0 K dX7_made_66 ?_
          refine aw_getR K gX7_26 dX7_made_67 rfl rfl ?_
          refine aw_il3 K dX7_made_70 ?_
          refine aw_iald K dX7_made_71 rfl (vp_in_nI (by omega) (by decide)) ?_
          refine aw_zald K dX7_made_72 rfl (H.2.2.2.1 _) ?_
          refine aw_if_ne (tgt := 87) K dX7_made_73 (by decide) (fun b73 => ?_) (fun b73 => ?_)
          · refine aw_iconst (v := 0) K dX7_made_87 (by decide) ?_
            refine aw_ior K dX7_made_88 ?_
            refine aw_is2 K dX7_made_89 (by decide) rfl ?_
            refine aw_ii3 (v := _ + 1) K dX7_made_90 rfl (by decide) rfl ?_
            refine aw_goto (tgt := 33) K dX7_made_93 (by decide) ?_
            rw [nI_1]
            refine ih (i + 1) _ (by omega) (by omega) ?_
            rw [hacc]
            rw [nI_clamp (show i < 2 ^ 31 by omega)] at *
            show _ = orU (fun t => if h.1 9 t = 2 ∧ h.1 7 t = a ∧ h.1 3 (h.1 6 t).toNatClampNeg = 0 then (1 : Int32) <<< (h.1 6 t &&& 31) else 0) i ||| (fun t => if h.1 9 t = 2 ∧ h.1 7 t = a ∧ h.1 3 (h.1 6 t).toNatClampNeg = 0 then (1 : Int32) <<< (h.1 6 t &&& 31) else 0) i
            exact congrArg (orU (fun t => if h.1 9 t = 2 ∧ h.1 7 t = a ∧ h.1 3 (h.1 6 t).toNatClampNeg = 0 then (1 : Int32) <<< (h.1 6 t &&& 31) else 0) i ||| ·) (if_neg (fun q => b73 q.2.2)).symm
          · refine aw_iconst (v := 1) K dX7_made_76 (by decide) ?_
            refine aw_al0 K dX7_made_77 ?_
            refine aw_getR K gX7_26 dX7_made_78 rfl rfl ?_
            refine aw_il3 K dX7_made_81 ?_
            refine aw_iald K dX7_made_82 rfl (vp_in_nI (by omega) (by decide)) ?_
            refine aw_ishl K dX7_made_83 ?_
            refine aw_goto (tgt := 88) K dX7_made_84 (by decide) ?_
            refine aw_ior K dX7_made_88 ?_
            refine aw_is2 K dX7_made_89 (by decide) rfl ?_
            refine aw_ii3 (v := _ + 1) K dX7_made_90 rfl (by decide) rfl ?_
            refine aw_goto (tgt := 33) K dX7_made_93 (by decide) ?_
            rw [nI_1]
            refine ih (i + 1) _ (by omega) (by omega) ?_
            rw [hacc]
            rw [nI_clamp (show i < 2 ^ 31 by omega)] at *
            show _ = orU (fun t => if h.1 9 t = 2 ∧ h.1 7 t = a ∧ h.1 3 (h.1 6 t).toNatClampNeg = 0 then (1 : Int32) <<< (h.1 6 t &&& 31) else 0) i ||| (fun t => if h.1 9 t = 2 ∧ h.1 7 t = a ∧ h.1 3 (h.1 6 t).toNatClampNeg = 0 then (1 : Int32) <<< (h.1 6 t &&& 31) else 0) i
            exact congrArg (orU (fun t => if h.1 9 t = 2 ∧ h.1 7 t = a ∧ h.1 3 (h.1 6 t).toNatClampNeg = 0 then (1 : Int32) <<< (h.1 6 t &&& 31) else 0) i ||| ·) (if_pos ⟨b49, b59, b73⟩).symm
set_option maxHeartbeats 4000000 in
set_option maxRecDepth 100000 in
theorem tX7_made (l : Launch) (g : Geo) (sta : Nat → Nat) (h : HS) (a : Int32) {N T Wn : Nat} (H : MW h N T Wn) : CT (wM l g sta) 7 mX7_made [.ref (g.2.1 0), .int a] h (DP (madM h a N T)) := by
  refine CT.at [some (.ref (g.2.1 0)), some (.int a), none, none] 2 rfl (by decide) (Nat.le_of_ble_eq_true rfl) (fun k K => ?_)
  refine aw_al0 K dX7_made_0 ?_
  refine aw_il1 K dX7_made_1 ?_
  refine aw_callV_I K (tX7_isName l g sta _ _) rfl (by decide) fX7_isName lX7_111 dX7_made_2 rfl clsX7 rfl (Nat.le_of_ble_eq_true rfl) ?_
  refine aw_if_ne (tgt := 10) K dX7_made_5 (by decide) (fun b5 => ?_) (fun b5 => ?_)
  · have ha : vp_in a 12 := inN H.1.1 H.1.2 (by decide) (bI_1.mp b5)
    refine aw_al0 K dX7_made_10 ?_
    refine aw_getR K gX7_17 dX7_made_11 rfl rfl ?_
    refine aw_il1 K dX7_made_14 ?_
    refine aw_zald K dX7_made_15 rfl ha ?_
    refine aw_if_eq (tgt := 22) K dX7_made_16 (by decide) (fun b16 => ?_) (fun b16 => ?_)
    · refine aw_al0 K dX7_made_22 ?_
      refine aw_getR K gX7_17 dX7_made_23 rfl rfl ?_
      refine aw_il1 K dX7_made_26 ?_
      refine aw_iconst (v := 1) K dX7_made_27 (by decide) ?_
      refine aw_zast K dX7_made_28 rfl ha ?_
      refine aw_iconst (v := 0) K dX7_made_29 (by decide) ?_
      refine aw_is2 K dX7_made_30 (by decide) rfl ?_
      refine aw_iconst (v := 0) K dX7_made_31 (by decide) ?_
      refine aw_is3 K dX7_made_32 (by decide) rfl ?_
      rw [show madM h a N T = _ from (by rw [madM, if_pos (bI_1.mp b5), if_pos b16])]
      exact lp1X7_made K _ a (H.pt rfl) (T + 1) 0 0 (by omega) (by omega) rfl
    · refine aw_bipush (v := (-2)) K dX7_made_19 (by decide) ?_
      refine aw_iret K rfl dX7_made_21 ?_
      exact DPi (by rw [madM, if_pos (bI_1.mp b5), if_neg b16])
  · refine aw_iconst (v := (-1)) K dX7_made_8 (by decide) ?_
    refine aw_iret K rfl dX7_made_9 ?_
    exact DPi (by rw [madM, if_neg (bI_0.mp b5)])

def bytM (x : Int64) (c : Int32) : Int32 := ((x >>> (c.toInt64 &&& 63)) &&& 255).toInt32
def fdM (h : HS) (x : Int64) : Nat → HS
  | 0 => h
  | k + 1 => setI (setI (fdM h x k) 14 ((fdM h x k).1 0 17).toNatClampNeg (bytM x (56 - 8 * nI k))) 0 17 ((fdM h x k).1 0 17 + 1)
theorem fdM_l (h : HS) (x : Int64) {L : Nat} (e : h.1 0 17 = nI L) : ∀ k, (fdM h x k).1 0 17 = nI (L + k)
  | 0 => e
  | k + 1 => by
    show (setI _ 0 17 _).1 0 17 = _
    rw [rdI, if_pos ⟨rfl, rfl⟩, fdM_l h x e k, nI_1]
    rfl
def feedM (h : HS) (x : Int64) : Int32 × HS := if h.1 0 17 + 8 ≤ 200 then ((fdM h x 8).1 0 17, fdM h x 8) else (-3, h)
set_option maxHeartbeats 4000000 in
set_option maxRecDepth 100000 in
theorem lp8X7_feed {l : Launch} {g : Geo} {sta : Nat → Nat} {k : KT} (K : AOK (wM l g sta) mX7_feed k) (h : HS) (x : Int64) {L : Nat} (e : h.1 0 17 = nI L) (hL : L ≤ 192) :
    AW (wM l g sta) (DP ((fdM h x 8).1 0 17, fdM h x 8)) 7 mX7_feed k 19 [some (.ref (g.2.1 0)), some (.long x), none, some (.int (-8))] [] (fdM h x 8) := by
  refine aw_il3 K dX7_feed_19 ?_
  refine aw_if_lt (tgt := 56) K dX7_feed_20 (by decide) (fun b20 => ?_) (fun b20 => ?_)
  · refine aw_al0 K dX7_feed_56 ?_
    refine aw_getI K gX7_149 dX7_feed_57 rfl rfl ?_
    refine aw_iret K rfl dX7_feed_60 ?_
    exact DPi rfl
  · exact absurd (by decide) b20
set_option maxHeartbeats 4000000 in
set_option maxRecDepth 100000 in
theorem lp7X7_feed {l : Launch} {g : Geo} {sta : Nat → Nat} {k : KT} (K : AOK (wM l g sta) mX7_feed k) (h : HS) (x : Int64) {L : Nat} (e : h.1 0 17 = nI L) (hL : L ≤ 192) :
    AW (wM l g sta) (DP ((fdM h x 8).1 0 17, fdM h x 8)) 7 mX7_feed k 19 [some (.ref (g.2.1 0)), some (.long x), none, some (.int 0)] [] (fdM h x 7) := by
  refine aw_il3 K dX7_feed_19 ?_
  refine aw_if_lt (tgt := 56) K dX7_feed_20 (by decide) (fun b20 => ?_) (fun b20 => ?_)
  · exact absurd b20 (by decide)
  · refine aw_al0 K dX7_feed_23 ?_
    refine aw_getR K gX7_50 dX7_feed_24 rfl rfl ?_
    refine aw_al0 K dX7_feed_27 ?_
    refine aw_getI K gX7_149 dX7_feed_28 rfl rfl ?_
    refine aw_ll1 K dX7_feed_31 ?_
    refine aw_il3 K dX7_feed_32 ?_
    refine aw_lshr K dX7_feed_33 ?_
    refine aw_ldc2 K qX7_152 dX7_feed_34 ?_
    refine aw_land K dX7_feed_37 ?_
    refine aw_l2i K dX7_feed_38 ?_
    have hc : vp_in ((fdM h x 7).1 0 17) 200 := by
      rw [fdM_l h x e 7]
      exact vp_in_nI (by omega) (by decide)
    refine aw_iast K dX7_feed_39 rfl hc ?_
    refine aw_al0 K dX7_feed_40 ?_
    refine aw_dup K dX7_feed_41 rfl ?_
    refine aw_getI K gX7_149 dX7_feed_42 rfl rfl ?_
    refine aw_iconst (v := 1) K dX7_feed_45 (by decide) ?_
    refine aw_iadd K dX7_feed_46 ?_
    refine aw_putI K gX7_149 fpX7_17 dX7_feed_47 rfl rfl ?_
    refine aw_ii3 (v := _ + (-8)) K dX7_feed_50 rfl (by decide) rfl ?_
    refine aw_goto (tgt := 19) K dX7_feed_53 (by decide) ?_
    exact lp8X7_feed K h x e hL
set_option maxHeartbeats 4000000 in
set_option maxRecDepth 100000 in
theorem lp6X7_feed {l : Launch} {g : Geo} {sta : Nat → Nat} {k : KT} (K : AOK (wM l g sta) mX7_feed k) (h : HS) (x : Int64) {L : Nat} (e : h.1 0 17 = nI L) (hL : L ≤ 192) :
    AW (wM l g sta) (DP ((fdM h x 8).1 0 17, fdM h x 8)) 7 mX7_feed k 19 [some (.ref (g.2.1 0)), some (.long x), none, some (.int 8)] [] (fdM h x 6) := by
  refine aw_il3 K dX7_feed_19 ?_
  refine aw_if_lt (tgt := 56) K dX7_feed_20 (by decide) (fun b20 => ?_) (fun b20 => ?_)
  · exact absurd b20 (by decide)
  · refine aw_al0 K dX7_feed_23 ?_
    refine aw_getR K gX7_50 dX7_feed_24 rfl rfl ?_
    refine aw_al0 K dX7_feed_27 ?_
    refine aw_getI K gX7_149 dX7_feed_28 rfl rfl ?_
    refine aw_ll1 K dX7_feed_31 ?_
    refine aw_il3 K dX7_feed_32 ?_
    refine aw_lshr K dX7_feed_33 ?_
    refine aw_ldc2 K qX7_152 dX7_feed_34 ?_
    refine aw_land K dX7_feed_37 ?_
    refine aw_l2i K dX7_feed_38 ?_
    have hc : vp_in ((fdM h x 6).1 0 17) 200 := by
      rw [fdM_l h x e 6]
      exact vp_in_nI (by omega) (by decide)
    refine aw_iast K dX7_feed_39 rfl hc ?_
    refine aw_al0 K dX7_feed_40 ?_
    refine aw_dup K dX7_feed_41 rfl ?_
    refine aw_getI K gX7_149 dX7_feed_42 rfl rfl ?_
    refine aw_iconst (v := 1) K dX7_feed_45 (by decide) ?_
    refine aw_iadd K dX7_feed_46 ?_
    refine aw_putI K gX7_149 fpX7_17 dX7_feed_47 rfl rfl ?_
    refine aw_ii3 (v := _ + (-8)) K dX7_feed_50 rfl (by decide) rfl ?_
    refine aw_goto (tgt := 19) K dX7_feed_53 (by decide) ?_
    exact lp7X7_feed K h x e hL
set_option maxHeartbeats 4000000 in
set_option maxRecDepth 100000 in
theorem lp5X7_feed {l : Launch} {g : Geo} {sta : Nat → Nat} {k : KT} (K : AOK (wM l g sta) mX7_feed k) (h : HS) (x : Int64) {L : Nat} (e : h.1 0 17 = nI L) (hL : L ≤ 192) :
    AW (wM l g sta) (DP ((fdM h x 8).1 0 17, fdM h x 8)) 7 mX7_feed k 19 [some (.ref (g.2.1 0)), some (.long x), none, some (.int 16)] [] (fdM h x 5) := by
  refine aw_il3 K dX7_feed_19 ?_
  refine aw_if_lt (tgt := 56) K dX7_feed_20 (by decide) (fun b20 => ?_) (fun b20 => ?_)
  · exact absurd b20 (by decide)
  · refine aw_al0 K dX7_feed_23 ?_
    refine aw_getR K gX7_50 dX7_feed_24 rfl rfl ?_
    refine aw_al0 K dX7_feed_27 ?_
    refine aw_getI K gX7_149 dX7_feed_28 rfl rfl ?_
    refine aw_ll1 K dX7_feed_31 ?_
    refine aw_il3 K dX7_feed_32 ?_
    refine aw_lshr K dX7_feed_33 ?_
    refine aw_ldc2 K qX7_152 dX7_feed_34 ?_
    refine aw_land K dX7_feed_37 ?_
    refine aw_l2i K dX7_feed_38 ?_
    have hc : vp_in ((fdM h x 5).1 0 17) 200 := by
      rw [fdM_l h x e 5]
      exact vp_in_nI (by omega) (by decide)
    refine aw_iast K dX7_feed_39 rfl hc ?_
    refine aw_al0 K dX7_feed_40 ?_
    refine aw_dup K dX7_feed_41 rfl ?_
    refine aw_getI K gX7_149 dX7_feed_42 rfl rfl ?_
    refine aw_iconst (v := 1) K dX7_feed_45 (by decide) ?_
    refine aw_iadd K dX7_feed_46 ?_
    refine aw_putI K gX7_149 fpX7_17 dX7_feed_47 rfl rfl ?_
    refine aw_ii3 (v := _ + (-8)) K dX7_feed_50 rfl (by decide) rfl ?_
    refine aw_goto (tgt := 19) K dX7_feed_53 (by decide) ?_
    exact lp6X7_feed K h x e hL
set_option maxHeartbeats 4000000 in
set_option maxRecDepth 100000 in
theorem lp4X7_feed {l : Launch} {g : Geo} {sta : Nat → Nat} {k : KT} (K : AOK (wM l g sta) mX7_feed k) (h : HS) (x : Int64) {L : Nat} (e : h.1 0 17 = nI L) (hL : L ≤ 192) :
    AW (wM l g sta) (DP ((fdM h x 8).1 0 17, fdM h x 8)) 7 mX7_feed k 19 [some (.ref (g.2.1 0)), some (.long x), none, some (.int 24)] [] (fdM h x 4) := by
  refine aw_il3 K dX7_feed_19 ?_
  refine aw_if_lt (tgt := 56) K dX7_feed_20 (by decide) (fun b20 => ?_) (fun b20 => ?_)
  · exact absurd b20 (by decide)
  · refine aw_al0 K dX7_feed_23 ?_
    refine aw_getR K gX7_50 dX7_feed_24 rfl rfl ?_
    refine aw_al0 K dX7_feed_27 ?_
    refine aw_getI K gX7_149 dX7_feed_28 rfl rfl ?_
    refine aw_ll1 K dX7_feed_31 ?_
    refine aw_il3 K dX7_feed_32 ?_
    refine aw_lshr K dX7_feed_33 ?_
    refine aw_ldc2 K qX7_152 dX7_feed_34 ?_
    refine aw_land K dX7_feed_37 ?_
    refine aw_l2i K dX7_feed_38 ?_
    have hc : vp_in ((fdM h x 4).1 0 17) 200 := by
      rw [fdM_l h x e 4]
      exact vp_in_nI (by omega) (by decide)
    refine aw_iast K dX7_feed_39 rfl hc ?_
    refine aw_al0 K dX7_feed_40 ?_
    refine aw_dup K dX7_feed_41 rfl ?_
    refine aw_getI K gX7_149 dX7_feed_42 rfl rfl ?_
    refine aw_iconst (v := 1) K dX7_feed_45 (by decide) ?_
    refine aw_iadd K dX7_feed_46 ?_
    refine aw_putI K gX7_149 fpX7_17 dX7_feed_47 rfl rfl ?_
    refine aw_ii3 (v := _ + (-8)) K dX7_feed_50 rfl (by decide) rfl ?_
    refine aw_goto (tgt := 19) K dX7_feed_53 (by decide) ?_
    exact lp5X7_feed K h x e hL
set_option maxHeartbeats 4000000 in
set_option maxRecDepth 100000 in
theorem lp3X7_feed {l : Launch} {g : Geo} {sta : Nat → Nat} {k : KT} (K : AOK (wM l g sta) mX7_feed k) (h : HS) (x : Int64) {L : Nat} (e : h.1 0 17 = nI L) (hL : L ≤ 192) :
    AW (wM l g sta) (DP ((fdM h x 8).1 0 17, fdM h x 8)) 7 mX7_feed k 19 [some (.ref (g.2.1 0)), some (.long x), none, some (.int 32)] [] (fdM h x 3) := by
  refine aw_il3 K dX7_feed_19 ?_
  refine aw_if_lt (tgt := 56) K dX7_feed_20 (by decide) (fun b20 => ?_) (fun b20 => ?_)
  · exact absurd b20 (by decide)
  · refine aw_al0 K dX7_feed_23 ?_
    refine aw_getR K gX7_50 dX7_feed_24 rfl rfl ?_
    refine aw_al0 K dX7_feed_27 ?_
    refine aw_getI K gX7_149 dX7_feed_28 rfl rfl ?_
    refine aw_ll1 K dX7_feed_31 ?_
    refine aw_il3 K dX7_feed_32 ?_
    refine aw_lshr K dX7_feed_33 ?_
    refine aw_ldc2 K qX7_152 dX7_feed_34 ?_
    refine aw_land K dX7_feed_37 ?_
    refine aw_l2i K dX7_feed_38 ?_
    have hc : vp_in ((fdM h x 3).1 0 17) 200 := by
      rw [fdM_l h x e 3]
      exact vp_in_nI (by omega) (by decide)
    refine aw_iast K dX7_feed_39 rfl hc ?_
    refine aw_al0 K dX7_feed_40 ?_
    refine aw_dup K dX7_feed_41 rfl ?_
    refine aw_getI K gX7_149 dX7_feed_42 rfl rfl ?_
    refine aw_iconst (v := 1) K dX7_feed_45 (by decide) ?_
    refine aw_iadd K dX7_feed_46 ?_
    refine aw_putI K gX7_149 fpX7_17 dX7_feed_47 rfl rfl ?_
    refine aw_ii3 (v := _ + (-8)) K dX7_feed_50 rfl (by decide) rfl ?_
    refine aw_goto (tgt := 19) K dX7_feed_53 (by decide) ?_
    exact lp4X7_feed K h x e hL
set_option maxHeartbeats 4000000 in
set_option maxRecDepth 100000 in
theorem lp2X7_feed {l : Launch} {g : Geo} {sta : Nat → Nat} {k : KT} (K : AOK (wM l g sta) mX7_feed k) (h : HS) (x : Int64) {L : Nat} (e : h.1 0 17 = nI L) (hL : L ≤ 192) :
    AW (wM l g sta) (DP ((fdM h x 8).1 0 17, fdM h x 8)) 7 mX7_feed k 19 [some (.ref (g.2.1 0)), some (.long x), none, some (.int 40)] [] (fdM h x 2) := by
  refine aw_il3 K dX7_feed_19 ?_
  refine aw_if_lt (tgt := 56) K dX7_feed_20 (by decide) (fun b20 => ?_) (fun b20 => ?_)
  · exact absurd b20 (by decide)
  · refine aw_al0 K dX7_feed_23 ?_
    refine aw_getR K gX7_50 dX7_feed_24 rfl rfl ?_
    refine aw_al0 K dX7_feed_27 ?_
    refine aw_getI K gX7_149 dX7_feed_28 rfl rfl ?_
    refine aw_ll1 K dX7_feed_31 ?_
    refine aw_il3 K dX7_feed_32 ?_
    refine aw_lshr K dX7_feed_33 ?_
    refine aw_ldc2 K qX7_152 dX7_feed_34 ?_
    refine aw_land K dX7_feed_37 ?_
    refine aw_l2i K dX7_feed_38 ?_
    have hc : vp_in ((fdM h x 2).1 0 17) 200 := by
      rw [fdM_l h x e 2]
      exact vp_in_nI (by omega) (by decide)
    refine aw_iast K dX7_feed_39 rfl hc ?_
    refine aw_al0 K dX7_feed_40 ?_
    refine aw_dup K dX7_feed_41 rfl ?_
    refine aw_getI K gX7_149 dX7_feed_42 rfl rfl ?_
    refine aw_iconst (v := 1) K dX7_feed_45 (by decide) ?_
    refine aw_iadd K dX7_feed_46 ?_
    refine aw_putI K gX7_149 fpX7_17 dX7_feed_47 rfl rfl ?_
    refine aw_ii3 (v := _ + (-8)) K dX7_feed_50 rfl (by decide) rfl ?_
    refine aw_goto (tgt := 19) K dX7_feed_53 (by decide) ?_
    exact lp3X7_feed K h x e hL
set_option maxHeartbeats 4000000 in
set_option maxRecDepth 100000 in
theorem lp1X7_feed {l : Launch} {g : Geo} {sta : Nat → Nat} {k : KT} (K : AOK (wM l g sta) mX7_feed k) (h : HS) (x : Int64) {L : Nat} (e : h.1 0 17 = nI L) (hL : L ≤ 192) :
    AW (wM l g sta) (DP ((fdM h x 8).1 0 17, fdM h x 8)) 7 mX7_feed k 19 [some (.ref (g.2.1 0)), some (.long x), none, some (.int 48)] [] (fdM h x 1) := by
  refine aw_il3 K dX7_feed_19 ?_
  refine aw_if_lt (tgt := 56) K dX7_feed_20 (by decide) (fun b20 => ?_) (fun b20 => ?_)
  · exact absurd b20 (by decide)
  · refine aw_al0 K dX7_feed_23 ?_
    refine aw_getR K gX7_50 dX7_feed_24 rfl rfl ?_
    refine aw_al0 K dX7_feed_27 ?_
    refine aw_getI K gX7_149 dX7_feed_28 rfl rfl ?_
    refine aw_ll1 K dX7_feed_31 ?_
    refine aw_il3 K dX7_feed_32 ?_
    refine aw_lshr K dX7_feed_33 ?_
    refine aw_ldc2 K qX7_152 dX7_feed_34 ?_
    refine aw_land K dX7_feed_37 ?_
    refine aw_l2i K dX7_feed_38 ?_
    have hc : vp_in ((fdM h x 1).1 0 17) 200 := by
      rw [fdM_l h x e 1]
      exact vp_in_nI (by omega) (by decide)
    refine aw_iast K dX7_feed_39 rfl hc ?_
    refine aw_al0 K dX7_feed_40 ?_
    refine aw_dup K dX7_feed_41 rfl ?_
    refine aw_getI K gX7_149 dX7_feed_42 rfl rfl ?_
    refine aw_iconst (v := 1) K dX7_feed_45 (by decide) ?_
    refine aw_iadd K dX7_feed_46 ?_
    refine aw_putI K gX7_149 fpX7_17 dX7_feed_47 rfl rfl ?_
    refine aw_ii3 (v := _ + (-8)) K dX7_feed_50 rfl (by decide) rfl ?_
    refine aw_goto (tgt := 19) K dX7_feed_53 (by decide) ?_
    exact lp2X7_feed K h x e hL
set_option maxHeartbeats 4000000 in
set_option maxRecDepth 100000 in
theorem lp0X7_feed {l : Launch} {g : Geo} {sta : Nat → Nat} {k : KT} (K : AOK (wM l g sta) mX7_feed k) (h : HS) (x : Int64) {L : Nat} (e : h.1 0 17 = nI L) (hL : L ≤ 192) :
    AW (wM l g sta) (DP ((fdM h x 8).1 0 17, fdM h x 8)) 7 mX7_feed k 19 [some (.ref (g.2.1 0)), some (.long x), none, some (.int 56)] [] (fdM h x 0) := by
  refine aw_il3 K dX7_feed_19 ?_
  refine aw_if_lt (tgt := 56) K dX7_feed_20 (by decide) (fun b20 => ?_) (fun b20 => ?_)
  · exact absurd b20 (by decide)
  · refine aw_al0 K dX7_feed_23 ?_
    refine aw_getR K gX7_50 dX7_feed_24 rfl rfl ?_
    refine aw_al0 K dX7_feed_27 ?_
    refine aw_getI K gX7_149 dX7_feed_28 rfl rfl ?_
    refine aw_ll1 K dX7_feed_31 ?_
    refine aw_il3 K dX7_feed_32 ?_
    refine aw_lshr K dX7_feed_33 ?_
    refine aw_ldc2 K qX7_152 dX7_feed_34 ?_
    refine aw_land K dX7_feed_37 ?_
    refine aw_l2i K dX7_feed_38 ?_
    have hc : vp_in ((fdM h x 0).1 0 17) 200 := by
      rw [fdM_l h x e 0]
      exact vp_in_nI (by omega) (by decide)
    refine aw_iast K dX7_feed_39 rfl hc ?_
    refine aw_al0 K dX7_feed_40 ?_
    refine aw_dup K dX7_feed_41 rfl ?_
    refine aw_getI K gX7_149 dX7_feed_42 rfl rfl ?_
    refine aw_iconst (v := 1) K dX7_feed_45 (by decide) ?_
    refine aw_iadd K dX7_feed_46 ?_
    refine aw_putI K gX7_149 fpX7_17 dX7_feed_47 rfl rfl ?_
    refine aw_ii3 (v := _ + (-8)) K dX7_feed_50 rfl (by decide) rfl ?_
    refine aw_goto (tgt := 19) K dX7_feed_53 (by decide) ?_
    exact lp1X7_feed K h x e hL
set_option maxHeartbeats 4000000 in
set_option maxRecDepth 100000 in
theorem tX7_feed (l : Launch) (g : Geo) (sta : Nat → Nat) (h : HS) (x : Int64) {L : Nat} (e : h.1 0 17 = nI L) (hL : L ≤ 200) : CT (wM l g sta) 7 mX7_feed [.ref (g.2.1 0), .long x] h (DP (feedM h x)) := by
  refine CT.at [some (.ref (g.2.1 0)), some (.long x), none, none] 1 rfl (by decide) (Nat.le_of_ble_eq_true rfl) (fun k K => ?_)
  refine aw_al0 K dX7_feed_0 ?_
  refine aw_getI K gX7_149 dX7_feed_1 rfl rfl ?_
  refine aw_bipush (v := 8) K dX7_feed_4 (by decide) ?_
  refine aw_iadd K dX7_feed_6 ?_
  refine aw_sipush (v := 200) K dX7_feed_7 (by decide) ?_
  refine aw_icmp_le (tgt := 16) K dX7_feed_10 (by decide) (fun b10 => ?_) (fun b10 => ?_)
  · refine aw_bipush (v := 56) K dX7_feed_16 (by decide) ?_
    refine aw_is3 K dX7_feed_18 (by decide) rfl ?_
    rw [show feedM h x = _ from (by rw [feedM, if_pos b10])]
    refine lp0X7_feed K h x e ?_
    have q := b10
    rw [e, show (8 : Int32) = nI 8 from rfl, nI_add] at q
    have := (nI_leI (b := 200) (by omega) (by decide)).mp q
    omega
  · refine aw_bipush (v := (-3)) K dX7_feed_13 (by decide) ?_
    refine aw_iret K rfl dX7_feed_15 ?_
    exact DPi (by rw [feedM, if_neg b10])

def sayM (h : HS) (a b c e : Int32) : HS := setI (setI (setI (setI (setI (setI h 18 (h.1 0 27).toNatClampNeg a) 19 (h.1 0 27).toNatClampNeg b) 20 (h.1 0 27).toNatClampNeg c) 21 (h.1 0 27).toNatClampNeg e) 22 (h.1 0 27).toNatClampNeg (h.1 0 12)) 0 27 (h.1 0 27 + 1)
def wordM (h : HS) (a b c e : Int32) : Int32 × HS := if (0 ≤ a ∧ a ≤ h.1 0 0 - 1) ∧ (0 ≤ b ∧ b ≤ h.1 0 0 - 1) ∧ ¬ a = b ∧ (0 ≤ c ∧ c ≤ 99) ∧ (0 ≤ e ∧ e ≤ 10) then (if h.1 0 27 = 24 then (-3, h) else (if h.1 3 a.toNatClampNeg = 0 then (h.1 0 27 + 1 - 1, sayM h a b c e) else (-2, h))) else (-1, h)
set_option maxHeartbeats 4000000 in
set_option maxRecDepth 100000 in
theorem tX7_says (l : Launch) (g : Geo) (sta : Nat → Nat) (h : HS) (a b c e : Int32) (hc : vp_in (h.1 0 27) 24) : CT (wM l g sta) 4 mX7_says [.ref (g.2.1 0), .int a, .int b, .int c, .int e] h (DV (sayM h a b c e)) := by
  refine CT.at [some (.ref (g.2.1 0)), some (.int a), some (.int b), some (.int c), some (.int e)] 0 rfl (by decide) (Nat.le_of_ble_eq_true rfl) (fun k K => ?_)
  refine aw_al0 K dX7_says_0 ?_
  refine aw_getR K gX7_62 dX7_says_1 rfl rfl ?_
  refine aw_al0 K dX7_says_4 ?_
  refine aw_getI K gX7_235 dX7_says_5 rfl rfl ?_
  refine aw_il1 K dX7_says_8 ?_
  refine aw_iast K dX7_says_9 rfl hc ?_
  refine aw_al0 K dX7_says_10 ?_
  refine aw_getR K gX7_65 dX7_says_11 rfl rfl ?_
  refine aw_al0 K dX7_says_14 ?_
  refine aw_getI K gX7_235 dX7_says_15 rfl rfl ?_
  refine aw_il2 K dX7_says_18 ?_
  refine aw_iast K dX7_says_19 rfl hc ?_
  refine aw_al0 K dX7_says_20 ?_
  refine aw_getR K gX7_68 dX7_says_21 rfl rfl ?_
  refine aw_al0 K dX7_says_24 ?_
  refine aw_getI K gX7_235 dX7_says_25 rfl rfl ?_
  refine aw_il3 K dX7_says_28 ?_
  refine aw_iast K dX7_says_29 rfl hc ?_
  refine aw_al0 K dX7_says_30 ?_
  refine aw_getR K gX7_71 dX7_says_31 rfl rfl ?_
  refine aw_al0 K dX7_says_34 ?_
  refine aw_getI K gX7_235 dX7_says_35 rfl rfl ?_
  refine aw_il4 K dX7_says_38 ?_
  refine aw_iast K dX7_says_40 rfl hc ?_
  refine aw_al0 K dX7_says_41 ?_
  refine aw_getR K gX7_74 dX7_says_42 rfl rfl ?_
  refine aw_al0 K dX7_says_45 ?_
  refine aw_getI K gX7_235 dX7_says_46 rfl rfl ?_
  refine aw_al0 K dX7_says_49 ?_
  refine aw_getI K gX7_106 dX7_says_50 rfl rfl ?_
  refine aw_iast K dX7_says_53 rfl hc ?_
  refine aw_al0 K dX7_says_54 ?_
  refine aw_dup K dX7_says_55 rfl ?_
  refine aw_getI K gX7_235 dX7_says_56 rfl rfl ?_
  refine aw_iconst (v := 1) K dX7_says_59 (by decide) ?_
  refine aw_iadd K dX7_says_60 ?_
  refine aw_putI K gX7_235 fpX7_27 dX7_says_61 rfl rfl ?_
  refine aw_vret K rfl dX7_says_64 ?_
  exact ⟨rfl, rfl⟩

set_option maxHeartbeats 4000000 in
set_option maxRecDepth 100000 in
theorem tX7_word (l : Launch) (g : Geo) (sta : Nat → Nat) (h : HS) (a b c e : Int32) {N T Wn : Nat} (H : MW h N T Wn) : CT (wM l g sta) 7 mX7_word [.ref (g.2.1 0), .int a, .int b, .int c, .int e] h (DP (wordM h a b c e)) := by
  refine CT.at [some (.ref (g.2.1 0)), some (.int a), some (.int b), some (.int c), some (.int e)] 0 rfl (by decide) (Nat.le_of_ble_eq_true rfl) (fun k K => ?_)
  refine aw_al0 K dX7_word_0 ?_
  refine aw_il1 K dX7_word_1 ?_
  refine aw_il2 K dX7_word_2 ?_
  refine aw_il3 K dX7_word_3 ?_
  refine aw_il4 K dX7_word_4 ?_
  refine aw_callV_I K (tX7_isWord l g sta _ _ _ _ _) rfl (by decide) fX7_isWord lX7_238 dX7_word_6 rfl clsX7 rfl (Nat.le_of_ble_eq_true rfl) ?_
  refine aw_if_ne (tgt := 14) K dX7_word_9 (by decide) (fun b9 => ?_) (fun b9 => ?_)
  · refine aw_al0 K dX7_word_14 ?_
    refine aw_getI K gX7_235 dX7_word_15 rfl rfl ?_
    refine aw_bipush (v := 24) K dX7_word_18 (by decide) ?_
    refine aw_icmp_ne (tgt := 26) K dX7_word_20 (by decide) (fun b20 => ?_) (fun b20 => ?_)
    · have ha : vp_in a 12 := inN H.1.1 H.1.2 (by decide) (bI_1.mp b9).1
      refine aw_al0 K dX7_word_26 ?_
      refine aw_getR K gX7_17 dX7_word_27 rfl rfl ?_
      refine aw_il1 K dX7_word_30 ?_
      refine aw_zald K dX7_word_31 rfl ha ?_
      refine aw_if_eq (tgt := 38) K dX7_word_32 (by decide) (fun b32 => ?_) (fun b32 => ?_)
      · refine aw_al0 K dX7_word_38 ?_
        refine aw_il1 K dX7_word_39 ?_
        refine aw_il2 K dX7_word_40 ?_
        refine aw_il3 K dX7_word_41 ?_
        refine aw_il4 K dX7_word_42 ?_
        refine aw_callV_V K (tX7_says l g sta _ _ _ _ _ (inE H.2.2.1.1 H.2.2.1.2 (by decide) b20)) rfl (by decide) fX7_says lX7_242 dX7_word_44 rfl clsX7 rfl (Nat.le_of_ble_eq_true rfl) ?_
        refine aw_al0 K dX7_word_47 ?_
        refine aw_getI K gX7_235 dX7_word_48 rfl rfl ?_
        refine aw_iconst (v := 1) K dX7_word_51 (by decide) ?_
        refine aw_isub K dX7_word_52 ?_
        refine aw_iret K rfl dX7_word_53 ?_
        exact DPi (by rw [wordM, if_pos (bI_1.mp b9), if_neg b20, if_pos b32]; rfl)
      · refine aw_bipush (v := (-2)) K dX7_word_35 (by decide) ?_
        refine aw_iret K rfl dX7_word_37 ?_
        exact DPi (by rw [wordM, if_pos (bI_1.mp b9), if_neg b20, if_neg b32])
    · refine aw_bipush (v := (-3)) K dX7_word_23 (by decide) ?_
      refine aw_iret K rfl dX7_word_25 ?_
      exact DPi (by rw [wordM, if_pos (bI_1.mp b9), if_pos b20])
  · refine aw_iconst (v := (-1)) K dX7_word_12 (by decide) ?_
    refine aw_iret K rfl dX7_word_13 ?_
    exact DPi (by rw [wordM, if_neg (bI_0.mp b9)])

def zr48 (f : Nat → Int32) (k i : Nat) : Nat → Int32 := fun j => if 48 * k ≤ j ∧ j < 48 * k + i then 0 else f j
theorem zr48_0 (f : Nat → Int32) (k : Nat) : zr48 f k 0 = f := by
  funext j
  exact if_neg (fun q => by omega)
theorem zr48_s (f : Nat → Int32) (k i : Nat) : upd (zr48 f k i) (48 * k + i) 0 = zr48 f k (i + 1) := by
  funext j
  show (if j = 48 * k + i then _ else _) = _
  unfold zr48
  split
  · rename_i q
    exact (if_pos (by omega)).symm
  · rename_i q
    by_cases z : 48 * k ≤ j ∧ j < 48 * k + i
    · rw [if_pos z, if_pos (by omega)]
    · rw [if_neg z, if_neg (by omega)]
def shtM (h : HS) (a b c : Int32) : Int32 × HS := if ((0 ≤ a ∧ a ≤ 3) ∧ (0 ≤ b ∧ b ≤ 2)) ∧ c ≤ 48 then (if 0 ≤ c then (1, setR (setI (setI h 25 a.toNatClampNeg b) 26 a.toNatClampNeg c) 27 (zr48 (h.1 27) a.toNatClampNeg 48)) else (-14, h)) else (-1, h)
theorem ix48 (j i : Nat) : (48 : Int32) * nI j + nI i = nI (48 * j + i) := by
  rw [show (48 : Int32) = nI 48 from rfl, pk_mul, nI_add]
set_option maxHeartbeats 4000000 in
set_option maxRecDepth 100000 in
theorem lpX7_sheet {l : Launch} {g : Geo} {sta : Nat → Nat} {k : KT} (K : AOK (wM l g sta) mX7_sheet k) (h : HS) (j : Nat) (hj : j < 4) (b c : Int32) :
    ∀ (n i : Nat), i ≤ 48 → 48 - i < n → AW (wM l g sta) (DP (1, setR h 27 (zr48 (h.1 27) j 48))) 7 mX7_sheet k 40 [some (.ref (g.2.1 0)), some (.int (nI j)), some (.int b), some (.int c), some (.int (nI i))] [] (setR h 27 (zr48 (h.1 27) j i)) := by
  intro n
  induction n with
  | zero => intro i h1 h2; omega
  | succ n ih =>
    intro i h1 h2
    refine aw_il4 K dX7_sheet_40 ?_
    refine aw_bipush (v := 48) K dX7_sheet_42 (by decide) ?_
    refine aw_icmp_ge (tgt := 66) K dX7_sheet_44 (by decide) (fun b44 => ?_) (fun b44 => ?_)
    · have hiN : i = 48 := by
        have := (nI_leI (a := 48) (by omega) (by omega : i < 2 ^ 31)).mp b44
        omega
      subst hiN
      refine aw_iconst (v := 1) K dX7_sheet_66 (by decide) ?_
      refine aw_iret K rfl dX7_sheet_67 ?_
      exact DPi rfl
    · have hlt : i < 48 := by
        rcases Nat.lt_or_ge i 48 with q | q
        · exact q
        · exact absurd (nI_le (a := 48) q (by omega)) b44
      refine aw_al0 K dX7_sheet_47 ?_
      refine aw_getR K gX7_89 dX7_sheet_48 rfl rfl ?_
      refine aw_bipush (v := 48) K dX7_sheet_51 (by decide) ?_
      refine aw_il1 K dX7_sheet_53 ?_
      refine aw_imul K dX7_sheet_54 ?_
      refine aw_il4 K dX7_sheet_55 ?_
      refine aw_iadd K dX7_sheet_57 ?_
      refine aw_iconst (v := 0) K dX7_sheet_58 (by decide) ?_
      rw [ix48]
      refine aw_iast K dX7_sheet_59 rfl (vp_in_nI (by omega) (by decide)) ?_
      refine aw_ii4 (v := _ + 1) K dX7_sheet_60 rfl (by decide) rfl ?_
      refine aw_goto (tgt := 40) K dX7_sheet_63 (by decide) ?_
      rw [nI_1, nI_clamp (show 48 * j + i < 2 ^ 31 by omega), set_set, zr48_s]
      exact ih (i + 1) (by omega) (by omega)
set_option maxHeartbeats 4000000 in
set_option maxRecDepth 100000 in
theorem tX7_sheet (l : Launch) (g : Geo) (sta : Nat → Nat) (h : HS) (a b c : Int32) : CT (wM l g sta) 7 mX7_sheet [.ref (g.2.1 0), .int a, .int b, .int c] h (DP (shtM h a b c)) := by
  refine CT.at [some (.ref (g.2.1 0)), some (.int a), some (.int b), some (.int c), none] 1 rfl (by decide) (Nat.le_of_ble_eq_true rfl) (fun k K => ?_)
  refine aw_il1 K dX7_sheet_0 ?_
  refine aw_il2 K dX7_sheet_1 ?_
  refine aw_callS_I K (tX7_isSheet l g sta _ _ _) rfl (by decide) fX7_isSheet lX7_324 dX7_sheet_2 rfl (Nat.le_of_ble_eq_true rfl) ?_
  refine aw_if_eq (tgt := 14) K dX7_sheet_5 (by decide) (fun b5 => ?_) (fun b5 => ?_)
  · refine aw_iconst (v := (-1)) K dX7_sheet_14 (by decide) ?_
    refine aw_iret K rfl dX7_sheet_15 ?_
    exact DPi (by rw [shtM, if_neg (fun q => bI_0.mp b5 q.1)])
  · refine aw_il3 K dX7_sheet_8 ?_
    refine aw_bipush (v := 48) K dX7_sheet_9 (by decide) ?_
    refine aw_icmp_le (tgt := 16) K dX7_sheet_11 (by decide) (fun b11 => ?_) (fun b11 => ?_)
    · refine aw_il3 K dX7_sheet_16 ?_
      refine aw_if_ge (tgt := 23) K dX7_sheet_17 (by decide) (fun b17 => ?_) (fun b17 => ?_)
      · obtain ⟨j, hj, rfl⟩ := sh_in (bI_1.mp b5).1
        refine aw_al0 K dX7_sheet_23 ?_
        refine aw_getR K gX7_83 dX7_sheet_24 rfl rfl ?_
        refine aw_il1 K dX7_sheet_27 ?_
        refine aw_il2 K dX7_sheet_28 ?_
        refine aw_iast K dX7_sheet_29 rfl (vp_in_nI hj (by decide)) ?_
        refine aw_al0 K dX7_sheet_30 ?_
        refine aw_getR K gX7_86 dX7_sheet_31 rfl rfl ?_
        refine aw_il1 K dX7_sheet_34 ?_
        refine aw_il3 K dX7_sheet_35 ?_
        refine aw_iast K dX7_sheet_36 rfl (vp_in_nI hj (by decide)) ?_
        refine aw_iconst (v := 0) K dX7_sheet_37 (by decide) ?_
        refine aw_is4 K dX7_sheet_38 (by decide) rfl ?_
        rw [shtM, if_pos ⟨bI_1.mp b5, b11⟩, if_pos b17, nI_clamp (show j < 2 ^ 31 by omega)]
        have z := lpX7_sheet K (setI (setI h 25 j b) 26 j c) j hj b c 49 0 (by omega) (by omega)
        rw [setR_e (zr48_0 _ _)] at z
        exact z
      · refine aw_bipush (v := (-14)) K dX7_sheet_20 (by decide) ?_
        refine aw_iret K rfl dX7_sheet_22 ?_
        exact DPi (by rw [shtM, if_pos ⟨bI_1.mp b5, b11⟩, if_neg b17])
    · refine aw_iconst (v := (-1)) K dX7_sheet_14 (by decide) ?_
      refine aw_iret K rfl dX7_sheet_15 ?_
      exact DPi (by rw [shtM, if_neg (fun q => b11 q.2)])

def layM_ (h : HS) (a b c : Int32) : Int32 × HS := if 0 ≤ a ∧ a ≤ 3 then (if h.1 25 a.toNatClampNeg = -4 then (-11, h) else (if 0 ≤ b ∧ b ≤ h.1 26 a.toNatClampNeg - 1 then (1, setI h 27 (48 * a + b).toNatClampNeg (if h.1 25 a.toNatClampNeg = 0 then c.toInt8.toInt32 else if h.1 25 a.toNatClampNeg = 1 then c.toInt16.toInt32 else c)) else (-12, h))) else (-1, h)
/-- the sheets of the reference: none, or of a size of 0 to 48 -/
def MZ (h : HS) : Prop := ∀ j, j < 4 → h.1 25 j = -4 ∨ ∃ z : Nat, z ≤ 48 ∧ h.1 26 j = nI z
theorem mz_in {h : HS} {j : Nat} {b : Int32} (hz : MZ h) (hj : j < 4) (hn : ¬ h.1 25 j = -4) (q : 0 ≤ b ∧ b ≤ h.1 26 j - 1) : ∃ i : Nat, i < 48 ∧ b = nI i := by
  rcases hz j hj with e | ⟨z, h1, e⟩
  · exact absurd e hn
  · exact vp_in_of (inN e h1 (by decide) q) (by decide)
set_option maxHeartbeats 4000000 in
set_option maxRecDepth 100000 in
theorem tX7_lay (l : Launch) (g : Geo) (sta : Nat → Nat) (h : HS) (a b c : Int32) (hz : MZ h) : CT (wM l g sta) 7 mX7_lay [.ref (g.2.1 0), .int a, .int b, .int c] h (DP (layM_ h a b c)) := by
  refine CT.at [some (.ref (g.2.1 0)), some (.int a), some (.int b), some (.int c)] 0 rfl (by decide) (Nat.le_of_ble_eq_true rfl) (fun k K => ?_)
  refine aw_il1 K dX7_lay_0 ?_
  refine aw_iconst (v := 0) K dX7_lay_1 (by decide) ?_
  refine aw_callS_I K (tX7_isSheet l g sta _ _ _) rfl (by decide) fX7_isSheet lX7_324 dX7_lay_2 rfl (Nat.le_of_ble_eq_true rfl) ?_
  refine aw_if_ne (tgt := 10) K dX7_lay_5 (by decide) (fun b5 => ?_) (fun b5 => ?_)
  · obtain ⟨j, hj, rfl⟩ := sh_in (bI_1.mp b5).1
    refine aw_al0 K dX7_lay_10 ?_
    refine aw_getR K gX7_83 dX7_lay_11 rfl rfl ?_
    refine aw_il1 K dX7_lay_14 ?_
    refine aw_iald K dX7_lay_15 rfl (vp_in_nI hj (by decide)) ?_
    rw [nI_clamp (show j < 2 ^ 31 by omega)]
    refine aw_bipush (v := (-4)) K dX7_lay_16 (by decide) ?_
    refine aw_icmp_ne (tgt := 24) K dX7_lay_18 (by decide) (fun b18 => ?_) (fun b18 => ?_)
    · refine aw_il2 K dX7_lay_24 ?_
      refine aw_i2l K dX7_lay_25 ?_
      refine aw_lconst (v := 0) K dX7_lay_26 (by decide) ?_
      refine aw_al0 K dX7_lay_27 ?_
      refine aw_getR K gX7_86 dX7_lay_28 rfl rfl ?_
      refine aw_il1 K dX7_lay_31 ?_
      refine aw_iald K dX7_lay_32 rfl (vp_in_nI hj (by decide)) ?_
      rw [nI_clamp (show j < 2 ^ 31 by omega)]
      refine aw_iconst (v := 1) K dX7_lay_33 (by decide) ?_
      refine aw_isub K dX7_lay_34 ?_
      refine aw_i2l K dX7_lay_35 ?_
      refine aw_callS_I K (in32 l g sta _ _ (0) (h.1 26 j - 1) (by decide) rfl) rfl (by decide) fX7_in lX7_102 dX7_lay_36 rfl (Nat.le_of_ble_eq_true rfl) ?_
      refine aw_if_ne (tgt := 45) K dX7_lay_39 (by decide) (fun b39 => ?_) (fun b39 => ?_)
      · refine aw_al0 K dX7_lay_45 ?_
        refine aw_getR K gX7_89 dX7_lay_46 rfl rfl ?_
        refine aw_bipush (v := 48) K dX7_lay_49 (by decide) ?_
        refine aw_il1 K dX7_lay_51 ?_
        refine aw_imul K dX7_lay_52 ?_
        refine aw_il2 K dX7_lay_53 ?_
        refine aw_iadd K dX7_lay_54 ?_
        refine aw_al0 K dX7_lay_55 ?_
        refine aw_getR K gX7_83 dX7_lay_56 rfl rfl ?_
        refine aw_il1 K dX7_lay_59 ?_
        refine aw_iald K dX7_lay_60 rfl (vp_in_nI hj (by decide)) ?_
        rw [nI_clamp (show j < 2 ^ 31 by omega)]
        refine aw_if_ne (tgt := 69) K dX7_lay_61 (by decide) (fun b61 => ?_) (fun b61 => ?_)
        · refine aw_al0 K dX7_lay_69 ?_
          refine aw_getR K gX7_83 dX7_lay_70 rfl rfl ?_
          refine aw_il1 K dX7_lay_73 ?_
          refine aw_iald K dX7_lay_74 rfl (vp_in_nI hj (by decide)) ?_
          rw [nI_clamp (show j < 2 ^ 31 by omega)]
          refine aw_iconst (v := 1) K dX7_lay_75 (by decide) ?_
          refine aw_icmp_ne (tgt := 84) K dX7_lay_76 (by decide) (fun b76 => ?_) (fun b76 => ?_)
          · refine aw_il3 K dX7_lay_84 ?_
            refine aw_iast K dX7_lay_85 rfl (by obtain ⟨i, hi, rfl⟩ := mz_in hz hj b18 (bI_1.mp b39); rw [ix48]; exact vp_in_nI (by omega) (by decide)) ?_
            refine aw_iconst (v := 1) K dX7_lay_86 (by decide) ?_
            refine aw_iret K rfl dX7_lay_87 ?_
            exact DPi (by rw [layM_, if_pos (bI_1.mp b5).1, nI_clamp (show j < 2 ^ 31 by omega), if_neg b18, if_pos (bI_1.mp b39), if_neg b61, if_neg b76])
          · refine aw_il3 K dX7_lay_79 ?_
            refine aw_i2s K dX7_lay_80 ?_
            refine aw_goto (tgt := 85) K dX7_lay_81 (by decide) ?_
            refine aw_iast K dX7_lay_85 rfl (by obtain ⟨i, hi, rfl⟩ := mz_in hz hj b18 (bI_1.mp b39); rw [ix48]; exact vp_in_nI (by omega) (by decide)) ?_
            refine aw_iconst (v := 1) K dX7_lay_86 (by decide) ?_
            refine aw_iret K rfl dX7_lay_87 ?_
            exact DPi (by rw [layM_, if_pos (bI_1.mp b5).1, nI_clamp (show j < 2 ^ 31 by omega), if_neg b18, if_pos (bI_1.mp b39), if_neg b61, if_pos b76])
        · refine aw_il3 K dX7_lay_64 ?_
          refine aw_i2b K dX7_lay_65 ?_
          refine aw_goto (tgt := 85) K dX7_lay_66 (by decide) ?_
          refine aw_iast K dX7_lay_85 rfl (by obtain ⟨i, hi, rfl⟩ := mz_in hz hj b18 (bI_1.mp b39); rw [ix48]; exact vp_in_nI (by omega) (by decide)) ?_
          refine aw_iconst (v := 1) K dX7_lay_86 (by decide) ?_
          refine aw_iret K rfl dX7_lay_87 ?_
          exact DPi (by rw [layM_, if_pos (bI_1.mp b5).1, nI_clamp (show j < 2 ^ 31 by omega), if_neg b18, if_pos (bI_1.mp b39), if_pos b61])
      · refine aw_bipush (v := (-12)) K dX7_lay_42 (by decide) ?_
        refine aw_iret K rfl dX7_lay_44 ?_
        exact DPi (by rw [layM_, if_pos (bI_1.mp b5).1, nI_clamp (show j < 2 ^ 31 by omega), if_neg b18, if_neg (bI_0.mp b39)])
    · refine aw_bipush (v := (-11)) K dX7_lay_21 (by decide) ?_
      refine aw_iret K rfl dX7_lay_23 ?_
      exact DPi (by rw [layM_, if_pos (bI_1.mp b5).1, nI_clamp (show j < 2 ^ 31 by omega), if_pos b18])
  · refine aw_iconst (v := (-1)) K dX7_lay_8 (by decide) ?_
    refine aw_iret K rfl dX7_lay_9 ?_
    exact DPi (by rw [layM_, if_neg (fun q => bI_0.mp b5 ⟨q, by decide⟩)])

