theorem or_0 (a b : Int32) (h : b = 0) : a ||| b = a := by rw [h]; exact Int32.or_zero
theorem lt_not {a b : Int32} (h : b ≤ a) : ¬ a < b := Int32.not_lt.mpr h
theorem ne0 {a : Int32} (h : ¬ ¬ a = 0) : a = 0 := Classical.not_not.mp h
/-! THE CLASS over all states that calls reach. v: the rows by the reference's numbers: one language for both -/
def vX (h : HS) (c : Nat) : Nat → Int32 := match c with
  | 0 => fun j => if j = 0 then h.1 1 5 else if j = 6 then h.1 2 5 else if j = 27 then h.1 3 7 else if j = 12 then h.1 0 11 else if j = 17 then h.1 4 1 else if j = 22 then h.1 4 2 else if j = 43 then h.1 0 12 else 0
  | 1 => h.1 16
  | 2 => h.1 17
  | 3 => h.1 18
  | 4 => h.1 19
  | 5 => h.1 20
  | 6 => h.1 21
  | 7 => h.1 22
  | 8 => h.1 23
  | 9 => h.1 24
  | 10 => h.1 25
  | 11 => h.1 11
  | 14 => h.1 33
  | 18 => h.1 26
  | 19 => h.1 27
  | 20 => h.1 28
  | 21 => h.1 29
  | 22 => h.1 30
  | _ => fun _ => 0
/-- what every state of the class has, as far as its indices need it -/
def XW (h : HS) (N T Wn : Nat) : Prop := (h.1 1 5 = nI N ∧ N ≤ 12) ∧ (h.1 2 5 = nI T ∧ T ≤ 24) ∧ (h.1 3 7 = nI Wn ∧ Wn ≤ 24) ∧ (∀ t, vp_in (h.1 21 t) 12) ∧ (∀ t, vp_in (h.1 22 t) 12) ∧ (∀ t, vp_in (h.1 24 t) 4) ∧ (∀ t, vp_in (h.1 26 t) 12) ∧ (∀ t, vp_in (h.1 27 t) 12) ∧ (∀ j, vp_in (h.1 38 j) 14)
theorem vp_mono {x : Int32} {a b : Nat} (h : vp_in x a) (hab : a ≤ b) : vp_in x b := fun q => h (q.elim Or.inl (fun z => Or.inr (Nat.le_trans hab z)))
def sumU (f : Nat → Int32) : Nat → Int32
  | 0 => 0
  | n + 1 => sumU f n + f n
def orU (f : Nat → Int32) : Nat → Int32
  | 0 => 0
  | n + 1 => orU f n ||| f n
theorem bI11 : bI (¬ (1 : Int32) = 0) = 1 := by decide
theorem bI00 : bI (¬ (0 : Int32) = 0) = 0 := by decide
theorem bIb {p : Prop} [Decidable p] : bI (¬ bI p = 0) = bI p := bI_congr bI_1
/-- faded -/
def fdV (x loss age : Int32) : Int32 := x * (if 0 < 100 - loss * age / 100 then 100 - loss * age / 100 else 0) / 100
def plV (v : Nat → Nat → Int32) (a : Nat) : Int32 := v 5 a * v 11 7 / 100
def gvV (v : Nat → Nat → Int32) (a : Nat) : Int32 := if v 3 a = 0 then plV v a + (if v 2 a = 0 then 0 else v 11 6) else 0
def rmV (v : Nat → Nat → Int32) (t : Nat) : Int32 := if ¬ v 3 (v 6 t).toNatClampNeg = 0 ∨ ¬ v 3 (v 7 t).toNatClampNeg = 0 then 0 else if v 0 12 < v 4 (v 6 t).toNatClampNeg ∨ v 0 12 < v 4 (v 7 t).toNatClampNeg then fdV (v 8 t * v 11 (v 9 t).toNatClampNeg / 100) (v 11 4) (v 0 12 - v 10 t) / 2 else fdV (v 8 t * v 11 (v 9 t).toNatClampNeg / 100) (v 11 4) (v 0 12 - v 10 t)
set_option maxHeartbeats 4000000 in
set_option maxRecDepth 100000 in
theorem tX6_isFined (l : Launch) (g : Geo) (sta : Nat → Nat) (h : HS) (a : Int32) (ha : vp_in a 12) : CT (wX l g sta) 1 mX6_isFined [.ref (g.2.1 0), .int a] h (DI (bI (vX h 0 12 < vX h 4 a.toNatClampNeg)) h) := by
  refine CT.at [some (.ref (g.2.1 0)), some (.int a)] 0 rfl (by decide) (Nat.le_of_ble_eq_true rfl) (fun k K => ?_)
  refine aw_al0 K dX6_isFined_0 ?_
  refine aw_getI K gX6_113 dX6_isFined_1 rfl rfl ?_
  refine aw_al0 K dX6_isFined_4 ?_
  refine aw_getR K gX6_12 dX6_isFined_5 rfl rfl ?_
  refine aw_getR K gX6_149 dX6_isFined_8 rfl rfl ?_
  refine aw_il1 K dX6_isFined_11 ?_
  refine aw_iald K dX6_isFined_12 rfl ha ?_
  refine aw_icmp_ge (tgt := 20) K dX6_isFined_13 (by decide) (fun b13 => ?_) (fun b13 => ?_)
  · refine aw_iconst (v := 0) K dX6_isFined_20 (by decide) ?_
    refine aw_zret K rfl dX6_isFined_21 (by first | rfl | exact bI_nar _) ?_
    exact ⟨congrArg some (congrArg Value.int (bI_f (lt_not b13)).symm), rfl⟩
  · refine aw_iconst (v := 1) K dX6_isFined_16 (by decide) ?_
    refine aw_goto (tgt := 21) K dX6_isFined_17 (by decide) ?_
    refine aw_zret K rfl dX6_isFined_21 (by first | rfl | exact bI_nar _) ?_
    exact ⟨congrArg some (congrArg Value.int (bI_t (not_le32 b13)).symm), rfl⟩

set_option maxHeartbeats 4000000 in
set_option maxRecDepth 100000 in
theorem tX6_isPlain (l : Launch) (g : Geo) (sta : Nat → Nat) (h : HS) (a : Int32) (ha : vp_in a 12) : CT (wX l g sta) 1 mX6_isPlain [.ref (g.2.1 0), .int a] h (DI (bI (vX h 2 a.toNatClampNeg = 0 ∧ vX h 3 a.toNatClampNeg = 0)) h) := by
  refine CT.at [some (.ref (g.2.1 0)), some (.int a)] 0 rfl (by decide) (Nat.le_of_ble_eq_true rfl) (fun k K => ?_)
  refine aw_al0 K dX6_isPlain_0 ?_
  refine aw_getR K gX6_12 dX6_isPlain_1 rfl rfl ?_
  refine aw_getR K gX6_88 dX6_isPlain_4 rfl rfl ?_
  refine aw_il1 K dX6_isPlain_7 ?_
  refine aw_zald K dX6_isPlain_8 rfl ha ?_
  refine aw_if_ne (tgt := 28) K dX6_isPlain_9 (by decide) (fun b9 => ?_) (fun b9 => ?_)
  · refine aw_iconst (v := 0) K dX6_isPlain_28 (by decide) ?_
    refine aw_zret K rfl dX6_isPlain_29 (by first | rfl | exact bI_nar _) ?_
    exact ⟨congrArg some (congrArg Value.int (bI_f (fun q => b9 q.1)).symm), rfl⟩
  · refine aw_al0 K dX6_isPlain_12 ?_
    refine aw_getR K gX6_12 dX6_isPlain_13 rfl rfl ?_
    refine aw_getR K gX6_96 dX6_isPlain_16 rfl rfl ?_
    refine aw_il1 K dX6_isPlain_19 ?_
    refine aw_zald K dX6_isPlain_20 rfl ha ?_
    refine aw_if_ne (tgt := 28) K dX6_isPlain_21 (by decide) (fun b21 => ?_) (fun b21 => ?_)
    · refine aw_iconst (v := 0) K dX6_isPlain_28 (by decide) ?_
      refine aw_zret K rfl dX6_isPlain_29 (by first | rfl | exact bI_nar _) ?_
      exact ⟨congrArg some (congrArg Value.int (bI_f (fun q => b21 q.2)).symm), rfl⟩
    · refine aw_iconst (v := 1) K dX6_isPlain_24 (by decide) ?_
      refine aw_goto (tgt := 29) K dX6_isPlain_25 (by decide) ?_
      refine aw_zret K rfl dX6_isPlain_29 (by first | rfl | exact bI_nar _) ?_
      exact ⟨congrArg some (congrArg Value.int (bI_t ⟨b9, b21⟩).symm), rfl⟩

set_option maxHeartbeats 4000000 in
set_option maxRecDepth 100000 in
theorem tX6_pledgeRoom (l : Launch) (g : Geo) (sta : Nat → Nat) (h : HS) (a : Int32) (ha : vp_in a 12) : CT (wX l g sta) 1 mX6_pledgeRoom [.ref (g.2.1 0), .int a] h (DI (plV (vX h) a.toNatClampNeg) h) := by
  refine CT.at [some (.ref (g.2.1 0)), some (.int a)] 0 rfl (by decide) (Nat.le_of_ble_eq_true rfl) (fun k K => ?_)
  refine aw_al0 K dX6_pledgeRoom_0 ?_
  refine aw_getR K gX6_12 dX6_pledgeRoom_1 rfl rfl ?_
  refine aw_getR K gX6_99 dX6_pledgeRoom_4 rfl rfl ?_
  refine aw_il1 K dX6_pledgeRoom_7 ?_
  refine aw_iald K dX6_pledgeRoom_8 rfl ha ?_
  refine aw_al0 K dX6_pledgeRoom_9 ?_
  refine aw_getR K gX6_50 dX6_pledgeRoom_10 rfl rfl ?_
  refine aw_bipush (v := 7) K dX6_pledgeRoom_13 (by decide) ?_
  refine aw_iald K dX6_pledgeRoom_15 rfl (vp_in_nI (n := 7) (by decide) (by decide)) ?_
  refine aw_imul K dX6_pledgeRoom_16 ?_
  refine aw_bipush (v := 100) K dX6_pledgeRoom_17 (by decide) ?_
  refine aw_idiv K dX6_pledgeRoom_19 (by decide) ?_
  refine aw_iret K rfl dX6_pledgeRoom_20 ?_
  exact ⟨rfl, rfl⟩

set_option maxHeartbeats 4000000 in
set_option maxRecDepth 100000 in
theorem tX6_givenTo (l : Launch) (g : Geo) (sta : Nat → Nat) (h : HS) (a : Int32) (ha : vp_in a 12) : CT (wX l g sta) 2 mX6_givenTo [.ref (g.2.1 0), .int a] h (DI (gvV (vX h) a.toNatClampNeg) h) := by
  refine CT.at [some (.ref (g.2.1 0)), some (.int a)] 0 rfl (by decide) (Nat.le_of_ble_eq_true rfl) (fun k K => ?_)
  refine aw_al0 K dX6_givenTo_0 ?_
  refine aw_getR K gX6_12 dX6_givenTo_1 rfl rfl ?_
  refine aw_getR K gX6_96 dX6_givenTo_4 rfl rfl ?_
  refine aw_il1 K dX6_givenTo_7 ?_
  refine aw_zald K dX6_givenTo_8 rfl ha ?_
  refine aw_if_eq (tgt := 14) K dX6_givenTo_9 (by decide) (fun b9 => ?_) (fun b9 => ?_)
  · refine aw_al0 K dX6_givenTo_14 ?_
    refine aw_il1 K dX6_givenTo_15 ?_
    refine aw_callV_I K (tX6_pledgeRoom l g sta _ _ ha) rfl (by decide) fX6_pledgeRoom lX6_102 dX6_givenTo_16 rfl clsX6 rfl (Nat.le_of_ble_eq_true rfl) ?_
    refine aw_al0 K dX6_givenTo_19 ?_
    refine aw_getR K gX6_12 dX6_givenTo_20 rfl rfl ?_
    refine aw_getR K gX6_88 dX6_givenTo_23 rfl rfl ?_
    refine aw_il1 K dX6_givenTo_26 ?_
    refine aw_zald K dX6_givenTo_27 rfl ha ?_
    refine aw_if_eq (tgt := 41) K dX6_givenTo_28 (by decide) (fun b28 => ?_) (fun b28 => ?_)
    · refine aw_iconst (v := 0) K dX6_givenTo_41 (by decide) ?_
      refine aw_iadd K dX6_givenTo_42 ?_
      refine aw_iret K rfl dX6_givenTo_43 ?_
      have e9 : vX h 3 a.toNatClampNeg = 0 := b9
      have e28 : vX h 2 a.toNatClampNeg = 0 := b28
      refine ⟨?_, rfl⟩
      rw [gvV, if_pos e9, if_pos e28]
    · refine aw_al0 K dX6_givenTo_31 ?_
      refine aw_getR K gX6_50 dX6_givenTo_32 rfl rfl ?_
      refine aw_bipush (v := 6) K dX6_givenTo_35 (by decide) ?_
      refine aw_iald K dX6_givenTo_37 rfl (vp_in_nI (n := 6) (by decide) (by decide)) ?_
      refine aw_goto (tgt := 42) K dX6_givenTo_38 (by decide) ?_
      refine aw_iadd K dX6_givenTo_42 ?_
      refine aw_iret K rfl dX6_givenTo_43 ?_
      have e9 : vX h 3 a.toNatClampNeg = 0 := b9
      have e28 : ¬ vX h 2 a.toNatClampNeg = 0 := b28
      refine ⟨?_, rfl⟩
      rw [gvV, if_pos e9, if_neg e28]
      rfl
  · refine aw_iconst (v := 0) K dX6_givenTo_12 (by decide) ?_
    refine aw_iret K rfl dX6_givenTo_13 ?_
    have e9 : ¬ vX h 3 a.toNatClampNeg = 0 := b9
    refine ⟨?_, rfl⟩
    rw [gvV, if_neg e9]

set_option maxHeartbeats 4000000 in
set_option maxRecDepth 100000 in
theorem tX6_faded (l : Launch) (g : Geo) (sta : Nat → Nat) (h : HS) (x loss age : Int32) : CT (wX l g sta) 1 mX6_faded [.int x, .int loss, .int age] h (DI (fdV x loss age) h) := by
  refine CT.at [some (.int x), some (.int loss), some (.int age), none] 1 rfl (by decide) (Nat.le_of_ble_eq_true rfl) (fun k K => ?_)
  refine aw_iconst (v := 0) K dX6_faded_0 (by decide) ?_
  refine aw_bipush (v := 100) K dX6_faded_1 (by decide) ?_
  refine aw_il1 K dX6_faded_3 ?_
  refine aw_il2 K dX6_faded_4 ?_
  refine aw_imul K dX6_faded_5 ?_
  refine aw_bipush (v := 100) K dX6_faded_6 (by decide) ?_
  refine aw_idiv K dX6_faded_8 (by decide) ?_
  refine aw_isub K dX6_faded_9 ?_
  refine aw_mmax K (aw_in 393 (by decide +kernel) rfl) cw_max1 cw_max2 cw_max3 (by decide) (Nat.le_of_ble_eq_true rfl) dX6_faded_10 ?_
  refine aw_is3 K dX6_faded_13 (by decide) rfl ?_
  refine aw_il0 K dX6_faded_14 ?_
  refine aw_il3 K dX6_faded_15 ?_
  refine aw_imul K dX6_faded_16 ?_
  refine aw_bipush (v := 100) K dX6_faded_17 (by decide) ?_
  refine aw_idiv K dX6_faded_19 (by decide) ?_
  refine aw_iret K rfl dX6_faded_20 ?_
  exact ⟨rfl, rfl⟩

set_option maxHeartbeats 4000000 in
set_option maxRecDepth 100000 in
theorem tX6_hasMadeEnd (l : Launch) (g : Geo) (sta : Nat → Nat) (h : HS) (a : Int32) (ha : vp_in a 24) (h1 : ∀ t, vp_in (h.1 21 t) 12) (h2 : ∀ t, vp_in (h.1 22 t) 12) : CT (wX l g sta) 1 mX6_hasMadeEnd [.ref (g.2.1 0), .int a] h (DI (bI (¬ vX h 3 (vX h 6 a.toNatClampNeg).toNatClampNeg = 0 ∨ ¬ vX h 3 (vX h 7 a.toNatClampNeg).toNatClampNeg = 0)) h) := by
  refine CT.at [some (.ref (g.2.1 0)), some (.int a)] 0 rfl (by decide) (Nat.le_of_ble_eq_true rfl) (fun k K => ?_)
  refine aw_al0 K dX6_hasMadeEnd_0 ?_
  refine aw_getR K gX6_12 dX6_hasMadeEnd_1 rfl rfl ?_
  refine aw_getR K gX6_96 dX6_hasMadeEnd_4 rfl rfl ?_
  refine aw_al0 K dX6_hasMadeEnd_7 ?_
  refine aw_getR K gX6_19 dX6_hasMadeEnd_8 rfl rfl ?_
  refine aw_getR K gX6_122 dX6_hasMadeEnd_11 rfl rfl ?_
  refine aw_il1 K dX6_hasMadeEnd_14 ?_
  refine aw_iald K dX6_hasMadeEnd_15 rfl ha ?_
  refine aw_zald K dX6_hasMadeEnd_16 rfl (h1 _) ?_
  refine aw_if_ne (tgt := 40) K dX6_hasMadeEnd_17 (by decide) (fun b17 => ?_) (fun b17 => ?_)
  · refine aw_iconst (v := 1) K dX6_hasMadeEnd_40 (by decide) ?_
    refine aw_goto (tgt := 45) K dX6_hasMadeEnd_41 (by decide) ?_
    refine aw_zret K rfl dX6_hasMadeEnd_45 (by first | rfl | exact bI_nar _) ?_
    exact ⟨congrArg some (congrArg Value.int (bI_t (Or.inl b17)).symm), rfl⟩
  · refine aw_al0 K dX6_hasMadeEnd_20 ?_
    refine aw_getR K gX6_12 dX6_hasMadeEnd_21 rfl rfl ?_
    refine aw_getR K gX6_96 dX6_hasMadeEnd_24 rfl rfl ?_
    refine aw_al0 K dX6_hasMadeEnd_27 ?_
    refine aw_getR K gX6_19 dX6_hasMadeEnd_28 rfl rfl ?_
    refine aw_getR K gX6_125 dX6_hasMadeEnd_31 rfl rfl ?_
    refine aw_il1 K dX6_hasMadeEnd_34 ?_
    refine aw_iald K dX6_hasMadeEnd_35 rfl ha ?_
    refine aw_zald K dX6_hasMadeEnd_36 rfl (h2 _) ?_
    refine aw_if_eq (tgt := 44) K dX6_hasMadeEnd_37 (by decide) (fun b37 => ?_) (fun b37 => ?_)
    · refine aw_iconst (v := 0) K dX6_hasMadeEnd_44 (by decide) ?_
      refine aw_zret K rfl dX6_hasMadeEnd_45 (by first | rfl | exact bI_nar _) ?_
      exact ⟨congrArg some (congrArg Value.int (bI_f (fun q => q.elim (fun z => z b17) (fun z => z b37))).symm), rfl⟩
    · refine aw_iconst (v := 1) K dX6_hasMadeEnd_40 (by decide) ?_
      refine aw_goto (tgt := 45) K dX6_hasMadeEnd_41 (by decide) ?_
      refine aw_zret K rfl dX6_hasMadeEnd_45 (by first | rfl | exact bI_nar _) ?_
      exact ⟨congrArg some (congrArg Value.int (bI_t (Or.inr b37)).symm), rfl⟩

set_option maxHeartbeats 4000000 in
set_option maxRecDepth 100000 in
theorem tX6_roomOf (l : Launch) (g : Geo) (sta : Nat → Nat) (h : HS) (a : Int32) (ha : vp_in a 24) {N T Wn : Nat} (H : XW h N T Wn) : CT (wX l g sta) 2 mX6_roomOf [.ref (g.2.1 0), .int a] h (DI (rmV (vX h) a.toNatClampNeg) h) := by
  refine CT.at [some (.ref (g.2.1 0)), some (.int a), none] 1 rfl (by decide) (Nat.le_of_ble_eq_true rfl) (fun k K => ?_)
  refine aw_al0 K dX6_roomOf_0 ?_
  refine aw_il1 K dX6_roomOf_1 ?_
  refine aw_callV_I K (tX6_hasMadeEnd l g sta _ _ ha H.2.2.2.1 H.2.2.2.2.1) rfl (by decide) fX6_hasMadeEnd lX6_140 dX6_roomOf_2 rfl clsX6 rfl (Nat.le_of_ble_eq_true rfl) ?_
  refine aw_if_eq (tgt := 10) K dX6_roomOf_5 (by decide) (fun b5 => ?_) (fun b5 => ?_)
  · refine aw_al0 K dX6_roomOf_10 ?_
    refine aw_getR K gX6_19 dX6_roomOf_11 rfl rfl ?_
    refine aw_getR K gX6_128 dX6_roomOf_14 rfl rfl ?_
    refine aw_il1 K dX6_roomOf_17 ?_
    refine aw_iald K dX6_roomOf_18 rfl ha ?_
    refine aw_al0 K dX6_roomOf_19 ?_
    refine aw_getR K gX6_50 dX6_roomOf_20 rfl rfl ?_
    refine aw_al0 K dX6_roomOf_23 ?_
    refine aw_getR K gX6_19 dX6_roomOf_24 rfl rfl ?_
    refine aw_getR K gX6_131 dX6_roomOf_27 rfl rfl ?_
    refine aw_il1 K dX6_roomOf_30 ?_
    refine aw_iald K dX6_roomOf_31 rfl ha ?_
    refine aw_iald K dX6_roomOf_32 rfl (vp_mono (H.2.2.2.2.2.1 _) (by decide)) ?_
    refine aw_imul K dX6_roomOf_33 ?_
    refine aw_bipush (v := 100) K dX6_roomOf_34 (by decide) ?_
    refine aw_idiv K dX6_roomOf_36 (by decide) ?_
    refine aw_al0 K dX6_roomOf_37 ?_
    refine aw_getR K gX6_50 dX6_roomOf_38 rfl rfl ?_
    refine aw_iconst (v := 4) K dX6_roomOf_41 (by decide) ?_
    refine aw_iald K dX6_roomOf_42 rfl (vp_in_nI (n := 4) (by decide) (by decide)) ?_
    refine aw_al0 K dX6_roomOf_43 ?_
    refine aw_getI K gX6_113 dX6_roomOf_44 rfl rfl ?_
    refine aw_al0 K dX6_roomOf_47 ?_
    refine aw_getR K gX6_19 dX6_roomOf_48 rfl rfl ?_
    refine aw_getR K gX6_134 dX6_roomOf_51 rfl rfl ?_
    refine aw_il1 K dX6_roomOf_54 ?_
    refine aw_iald K dX6_roomOf_55 rfl ha ?_
    refine aw_isub K dX6_roomOf_56 ?_
    refine aw_callS_I K (tX6_faded l g sta _ _ _ _) rfl (by decide) fX6_faded lX6_329 dX6_roomOf_57 rfl (Nat.le_of_ble_eq_true rfl) ?_
    refine aw_is2 K dX6_roomOf_60 (by decide) rfl ?_
    refine aw_al0 K dX6_roomOf_61 ?_
    refine aw_al0 K dX6_roomOf_62 ?_
    refine aw_getR K gX6_19 dX6_roomOf_63 rfl rfl ?_
    refine aw_getR K gX6_122 dX6_roomOf_66 rfl rfl ?_
    refine aw_il1 K dX6_roomOf_69 ?_
    refine aw_iald K dX6_roomOf_70 rfl ha ?_
    refine aw_callV_I K (tX6_isFined l g sta _ _ (H.2.2.2.1 _)) rfl (by decide) fX6_isFined lX6_146 dX6_roomOf_71 rfl clsX6 rfl (Nat.le_of_ble_eq_true rfl) ?_
    refine aw_if_ne (tgt := 93) K dX6_roomOf_74 (by decide) (fun b74 => ?_) (fun b74 => ?_)
    · refine aw_il2 K dX6_roomOf_93 ?_
      refine aw_iconst (v := 2) K dX6_roomOf_94 (by decide) ?_
      refine aw_idiv K dX6_roomOf_95 (by decide) ?_
      refine aw_goto (tgt := 100) K dX6_roomOf_96 (by decide) ?_
      refine aw_iret K rfl dX6_roomOf_100 ?_
      refine ⟨?_, rfl⟩
      rw [rmV, if_neg (bI_0.mp b5), if_pos (show vX h 0 12 < vX h 4 (vX h 6 a.toNatClampNeg).toNatClampNeg ∨ vX h 0 12 < vX h 4 (vX h 7 a.toNatClampNeg).toNatClampNeg from Or.inl (bI_1.mp b74))]
      rfl
    · refine aw_al0 K dX6_roomOf_77 ?_
      refine aw_al0 K dX6_roomOf_78 ?_
      refine aw_getR K gX6_19 dX6_roomOf_79 rfl rfl ?_
      refine aw_getR K gX6_125 dX6_roomOf_82 rfl rfl ?_
      refine aw_il1 K dX6_roomOf_85 ?_
      refine aw_iald K dX6_roomOf_86 rfl ha ?_
      refine aw_callV_I K (tX6_isFined l g sta _ _ (H.2.2.2.2.1 _)) rfl (by decide) fX6_isFined lX6_146 dX6_roomOf_87 rfl clsX6 rfl (Nat.le_of_ble_eq_true rfl) ?_
      refine aw_if_eq (tgt := 99) K dX6_roomOf_90 (by decide) (fun b90 => ?_) (fun b90 => ?_)
      · refine aw_il2 K dX6_roomOf_99 ?_
        refine aw_iret K rfl dX6_roomOf_100 ?_
        refine ⟨?_, rfl⟩
        rw [rmV, if_neg (bI_0.mp b5), if_neg (fun q => q.elim (bI_0.mp b74) (bI_0.mp b90))]
        rfl
      · refine aw_il2 K dX6_roomOf_93 ?_
        refine aw_iconst (v := 2) K dX6_roomOf_94 (by decide) ?_
        refine aw_idiv K dX6_roomOf_95 (by decide) ?_
        refine aw_goto (tgt := 100) K dX6_roomOf_96 (by decide) ?_
        refine aw_iret K rfl dX6_roomOf_100 ?_
        refine ⟨?_, rfl⟩
        rw [rmV, if_neg (bI_0.mp b5), if_pos (show vX h 0 12 < vX h 4 (vX h 6 a.toNatClampNeg).toNatClampNeg ∨ vX h 0 12 < vX h 4 (vX h 7 a.toNatClampNeg).toNatClampNeg from Or.inr (bI_1.mp b90))]
        rfl
  · refine aw_iconst (v := 0) K dX6_roomOf_8 (by decide) ?_
    refine aw_iret K rfl dX6_roomOf_9 ?_
    refine ⟨?_, rfl⟩
    rw [rmV, if_pos (bI_1.mp b5)]

set_option maxHeartbeats 4000000 in
set_option maxRecDepth 100000 in
theorem lpX6_countTrue {l : Launch} {g : Geo} {sta : Nat → Nat} {k : KT} (K : AOK (wX l g sta) mX6_countTrue k) (h : HS) (c N : Nat) (hc : layX[c]? = some (1, 12, [])) (hN : h.1 1 5 = nI N) (hN2 : N ≤ 12) :
    ∀ (n i : Nat) (acc : Int32), i ≤ N → N - i < n → acc = sumU (fun a => bI (¬ h.1 c a = 0)) i → AW (wX l g sta) (DI (sumU (fun a => bI (¬ h.1 c a = 0)) N) h) 2 mX6_countTrue k 4 [some (.ref (g.2.1 0)), some (.ref (g.2.1 c)), some (.int acc), some (.int (nI i))] [] h := by
  intro n
  induction n with
  | zero => intro i acc h1 h2; omega
  | succ n ih =>
    intro i acc h1 h2 hacc
    refine aw_il3 K dX6_countTrue_4 ?_
    refine aw_al0 K dX6_countTrue_5 ?_
    refine aw_getR K gX6_12 dX6_countTrue_6 rfl rfl ?_
    refine aw_getI K gX6_161 dX6_countTrue_9 rfl rfl ?_
    rw [hN]
    refine aw_icmp_ge (tgt := 30) K dX6_countTrue_12 (by decide) (fun b12 => ?_) (fun b12 => ?_)
    · have hiN : i = N := by
        have := (nI_leI (a := N) (by omega) (by omega : i < 2 ^ 31)).mp b12
        omega
      subst hiN
      subst hacc
      refine aw_il2 K dX6_countTrue_30 ?_
      refine aw_iret K rfl dX6_countTrue_31 ?_
      exact ⟨rfl, rfl⟩
    · have hlt : i < N := by
        rcases Nat.lt_or_ge i N with q | q
        · exact q
        · exact absurd (nI_le (a := N) q (by omega)) b12
      refine aw_il2 K dX6_countTrue_15 ?_
      refine aw_al1 K dX6_countTrue_16 ?_
      refine aw_il3 K dX6_countTrue_17 ?_
      refine aw_zald K dX6_countTrue_18 hc (vp_in_nI (by omega) (by decide)) ?_
      refine aw_callS_I K (tX6_oneIf l g sta _ _) rfl (by decide) fX6_oneIf lX6_92 dX6_countTrue_19 rfl (Nat.le_of_ble_eq_true rfl) ?_
      rw [nI_clamp (by omega)]
      refine aw_iadd K dX6_countTrue_22 ?_
      refine aw_is2 K dX6_countTrue_23 (by decide) rfl ?_
      refine aw_ii3 (v := _ + 1) K dX6_countTrue_24 rfl (by decide) rfl ?_
      refine aw_goto (tgt := 4) K dX6_countTrue_27 (by decide) ?_
      rw [nI_1]
      exact ih (i + 1) _ (by omega) (by omega) (by rw [hacc]; rfl)
set_option maxHeartbeats 4000000 in
set_option maxRecDepth 100000 in
theorem tX6_countTrue (l : Launch) (g : Geo) (sta : Nat → Nat) (h : HS) (c : Nat) (hc : layX[c]? = some (1, 12, [])) {N T Wn : Nat} (H : XW h N T Wn) : CT (wX l g sta) 2 mX6_countTrue [.ref (g.2.1 0), .ref (g.2.1 c)] h (DI (sumU (fun a => bI (¬ h.1 c a = 0)) N) h) := by
  refine CT.at [some (.ref (g.2.1 0)), some (.ref (g.2.1 c)), none, none] 2 rfl (by decide) (Nat.le_of_ble_eq_true rfl) (fun k K => ?_)
  refine aw_iconst (v := 0) K dX6_countTrue_0 (by decide) ?_
  refine aw_is2 K dX6_countTrue_1 (by decide) rfl ?_
  refine aw_iconst (v := 0) K dX6_countTrue_2 (by decide) ?_
  refine aw_is3 K dX6_countTrue_3 (by decide) rfl ?_
  exact lpX6_countTrue K h c N hc H.1.1 H.1.2 (N + 1) 0 0 (by omega) (by omega) rfl

set_option maxHeartbeats 4000000 in
set_option maxRecDepth 100000 in
theorem lpX6_countFined {l : Launch} {g : Geo} {sta : Nat → Nat} {k : KT} (K : AOK (wX l g sta) mX6_countFined k) (h : HS) (N : Nat) (hN : h.1 1 5 = nI N) (hN2 : N ≤ 12) :
    ∀ (n i : Nat) (acc : Int32), i ≤ N → N - i < n → acc = sumU (fun a => bI (vX h 0 12 < vX h 4 a)) i → AW (wX l g sta) (DI (sumU (fun a => bI (vX h 0 12 < vX h 4 a)) N) h) 2 mX6_countFined k 4 [some (.ref (g.2.1 0)), some (.int acc), some (.int (nI i))] [] h := by
  intro n
  induction n with
  | zero => intro i acc h1 h2; omega
  | succ n ih =>
    intro i acc h1 h2 hacc
    refine aw_il2 K dX6_countFined_4 ?_
    refine aw_al0 K dX6_countFined_5 ?_
    refine aw_getR K gX6_12 dX6_countFined_6 rfl rfl ?_
    refine aw_getI K gX6_161 dX6_countFined_9 rfl rfl ?_
    rw [hN]
    refine aw_icmp_ge (tgt := 32) K dX6_countFined_12 (by decide) (fun b12 => ?_) (fun b12 => ?_)
    · have hiN : i = N := by
        have := (nI_leI (a := N) (by omega) (by omega : i < 2 ^ 31)).mp b12
        omega
      subst hiN
      subst hacc
      refine aw_il1 K dX6_countFined_32 ?_
      refine aw_iret K rfl dX6_countFined_33 ?_
      exact ⟨rfl, rfl⟩
    · have hlt : i < N := by
        rcases Nat.lt_or_ge i N with q | q
        · exact q
        · exact absurd (nI_le (a := N) q (by omega)) b12
      refine aw_il1 K dX6_countFined_15 ?_
      refine aw_al0 K dX6_countFined_16 ?_
      refine aw_il2 K dX6_countFined_17 ?_
      refine aw_callV_I K (tX6_isFined l g sta _ _ (vp_in_nI (by omega) (by decide))) rfl (by decide) fX6_isFined lX6_146 dX6_countFined_18 rfl clsX6 rfl (Nat.le_of_ble_eq_true rfl) ?_
      refine aw_callS_I K (tX6_oneIf l g sta _ _) rfl (by decide) fX6_oneIf lX6_92 dX6_countFined_21 rfl (Nat.le_of_ble_eq_true rfl) ?_
      rw [bIb, nI_clamp (by omega)]
      refine aw_iadd K dX6_countFined_24 ?_
      refine aw_is1 K dX6_countFined_25 (by decide) rfl ?_
      refine aw_ii2 (v := _ + 1) K dX6_countFined_26 rfl (by decide) rfl ?_
      refine aw_goto (tgt := 4) K dX6_countFined_29 (by decide) ?_
      rw [nI_1]
      exact ih (i + 1) _ (by omega) (by omega) (by rw [hacc]; rfl)
set_option maxHeartbeats 4000000 in
set_option maxRecDepth 100000 in
theorem tX6_countFined (l : Launch) (g : Geo) (sta : Nat → Nat) (h : HS) {N T Wn : Nat} (H : XW h N T Wn) : CT (wX l g sta) 2 mX6_countFined [.ref (g.2.1 0)] h (DI (sumU (fun a => bI (vX h 0 12 < vX h 4 a)) N) h) := by
  refine CT.at [some (.ref (g.2.1 0)), none, none] 2 rfl (by decide) (Nat.le_of_ble_eq_true rfl) (fun k K => ?_)
  refine aw_iconst (v := 0) K dX6_countFined_0 (by decide) ?_
  refine aw_is1 K dX6_countFined_1 (by decide) rfl ?_
  refine aw_iconst (v := 0) K dX6_countFined_2 (by decide) ?_
  refine aw_is2 K dX6_countFined_3 (by decide) rfl ?_
  exact lpX6_countFined K h N H.1.1 H.1.2 (N + 1) 0 0 (by omega) (by omega) rfl

set_option maxHeartbeats 4000000 in
set_option maxRecDepth 100000 in
theorem lpX6_standingFor {l : Launch} {g : Geo} {sta : Nat → Nat} {k : KT} (K : AOK (wX l g sta) mX6_standingFor k) (h : HS) (a : Int32) {N T Wn : Nat} (H : XW h N T Wn) :
    ∀ (n i : Nat) (acc : Int32), i ≤ T → T - i < n → acc = orU (fun t => if h.1 24 t = 2 ∧ h.1 22 t = a ∧ h.1 18 (h.1 21 t).toNatClampNeg = 0 then (1 : Int32) <<< (h.1 21 t &&& 31) else 0) i → AW (wX l g sta) (DI (orU (fun t => if h.1 24 t = 2 ∧ h.1 22 t = a ∧ h.1 18 (h.1 21 t).toNatClampNeg = 0 then (1 : Int32) <<< (h.1 21 t &&& 31) else 0) T) h) 2 mX6_standingFor k 4 [some (.ref (g.2.1 0)), some (.int a), some (.int acc), some (.int (nI i)), none] [] h := by
  intro n
  induction n with
  | zero => intro i acc h1 h2; omega
  | succ n ih =>
    intro i acc h1 h2 hacc
    have hT := H.2.1.2
    refine aw_il3 K dX6_standingFor_4 ?_
    refine aw_al0 K dX6_standingFor_5 ?_
    refine aw_getR K gX6_19 dX6_standingFor_6 rfl rfl ?_
    refine aw_getI K gX6_109 dX6_standingFor_9 rfl rfl ?_
    rw [H.2.1.1]
    refine aw_icmp_ge (tgt := 78) K dX6_standingFor_12 (by decide) (fun b12 => ?_) (fun b12 => ?_)
    · have hiN : i = T := by
        have := (nI_leI (a := T) (by omega) (by omega : i < 2 ^ 31)).mp b12
        omega
      subst hiN
      subst hacc
      refine aw_il2 K dX6_standingFor_78 ?_
      refine aw_iret K rfl dX6_standingFor_79 ?_
      exact ⟨rfl, rfl⟩
    · have hlt : i < T := by
        rcases Nat.lt_or_ge i T with q | q
        · exact q
        · exact absurd (nI_le (a := T) q (by omega)) b12
      refine aw_al0 K dX6_standingFor_15 ?_
      refine aw_getR K gX6_19 dX6_standingFor_16 rfl rfl ?_
      refine aw_getR K gX6_122 dX6_standingFor_19 rfl rfl ?_
      refine aw_il3 K dX6_standingFor_22 ?_
      refine aw_iald K dX6_standingFor_23 rfl (vp_in_nI (by omega) (by decide)) ?_
      refine aw_is4 K dX6_standingFor_24 (by decide) rfl ?_
      refine aw_al0 K dX6_standingFor_26 ?_
      refine aw_getR K gX6_19 dX6_standingFor_27 rfl rfl ?_
      refine aw_getR K gX6_131 dX6_standingFor_30 rfl rfl ?_
      refine aw_il3 K dX6_standingFor_33 ?_
      refine aw_iald K dX6_standingFor_34 rfl (vp_in_nI (by omega) (by decide)) ?_
      refine aw_iconst (v := 2) K dX6_standingFor_35 (by decide) ?_
      refine aw_icmp_ne (tgt := 72) K dX6_standingFor_36 (by decide) (fun b36 => ?_) (fun b36 => ?_)
      · refine aw_ii3 (v := _ + 1) K dX6_standingFor_72 rfl (by decide) rfl ?_
        refine aw_goto (tgt := 4) K dX6_standingFor_75 (by decide) ?_
        rw [nI_1]
        refine aw_sub [some (.ref (g.2.1 0)), some (.int a), some (.int _), some (.int _), none] ⟨rfl, rfl, rfl, rfl, trivial⟩ ?_
        refine ih (i + 1) _ (by omega) (by omega) ?_
        rw [hacc]
        rw [nI_clamp (show i < 2 ^ 31 by omega)] at *
        show _ = orU (fun t => if h.1 24 t = 2 ∧ h.1 22 t = a ∧ h.1 18 (h.1 21 t).toNatClampNeg = 0 then (1 : Int32) <<< (h.1 21 t &&& 31) else 0) i ||| (fun t => if h.1 24 t = 2 ∧ h.1 22 t = a ∧ h.1 18 (h.1 21 t).toNatClampNeg = 0 then (1 : Int32) <<< (h.1 21 t &&& 31) else 0) i
        exact (or_0 _ _ (if_neg (fun q => b36 q.1))).symm
      · refine aw_al0 K dX6_standingFor_39 ?_
        refine aw_getR K gX6_19 dX6_standingFor_40 rfl rfl ?_
        refine aw_getR K gX6_125 dX6_standingFor_43 rfl rfl ?_
        refine aw_il3 K dX6_standingFor_46 ?_
        refine aw_iald K dX6_standingFor_47 rfl (vp_in_nI (by omega) (by decide)) ?_
        refine aw_il1 K dX6_standingFor_48 ?_
        refine aw_icmp_ne (tgt := 72) K dX6_standingFor_49 (by decide) (fun b49 => ?_) (fun b49 => ?_)
        · refine aw_ii3 (v := _ + 1) K dX6_standingFor_72 rfl (by decide) rfl ?_
          refine aw_goto (tgt := 4) K dX6_standingFor_75 (by decide) ?_
          rw [nI_1]
          refine aw_sub [some (.ref (g.2.1 0)), some (.int a), some (.int _), some (.int _), none] ⟨rfl, rfl, rfl, rfl, trivial⟩ ?_
          refine ih (i + 1) _ (by omega) (by omega) ?_
          rw [hacc]
          rw [nI_clamp (show i < 2 ^ 31 by omega)] at *
          show _ = orU (fun t => if h.1 24 t = 2 ∧ h.1 22 t = a ∧ h.1 18 (h.1 21 t).toNatClampNeg = 0 then (1 : Int32) <<< (h.1 21 t &&& 31) else 0) i ||| (fun t => if h.1 24 t = 2 ∧ h.1 22 t = a ∧ h.1 18 (h.1 21 t).toNatClampNeg = 0 then (1 : Int32) <<< (h.1 21 t &&& 31) else 0) i
          exact (or_0 _ _ (if_neg (fun q => b49 q.2.1))).symm
        · refine aw_al0 K dX6_standingFor_52 ?_
          refine aw_getR K gX6_12 dX6_standingFor_53 rfl rfl ?_
          refine aw_getR K gX6_96 dX6_standingFor_56 rfl rfl ?_
          refine aw_il4 K dX6_standingFor_59 ?_
          refine aw_zald K dX6_standingFor_61 rfl (H.2.2.2.1 _) ?_
          refine aw_if_ne (tgt := 72) K dX6_standingFor_62 (by decide) (fun b62 => ?_) (fun b62 => ?_)
          · refine aw_ii3 (v := _ + 1) K dX6_standingFor_72 rfl (by decide) rfl ?_
            refine aw_goto (tgt := 4) K dX6_standingFor_75 (by decide) ?_
            rw [nI_1]
            refine aw_sub [some (.ref (g.2.1 0)), some (.int a), some (.int _), some (.int _), none] ⟨rfl, rfl, rfl, rfl, trivial⟩ ?_
            refine ih (i + 1) _ (by omega) (by omega) ?_
            rw [hacc]
            rw [nI_clamp (show i < 2 ^ 31 by omega)] at *
            show _ = orU (fun t => if h.1 24 t = 2 ∧ h.1 22 t = a ∧ h.1 18 (h.1 21 t).toNatClampNeg = 0 then (1 : Int32) <<< (h.1 21 t &&& 31) else 0) i ||| (fun t => if h.1 24 t = 2 ∧ h.1 22 t = a ∧ h.1 18 (h.1 21 t).toNatClampNeg = 0 then (1 : Int32) <<< (h.1 21 t &&& 31) else 0) i
            exact (or_0 _ _ (if_neg (fun q => b62 q.2.2))).symm
          · refine aw_il2 K dX6_standingFor_65 ?_
            refine aw_iconst (v := 1) K dX6_standingFor_66 (by decide) ?_
            refine aw_il4 K dX6_standingFor_67 ?_
            refine aw_ishl K dX6_standingFor_69 ?_
            refine aw_ior K dX6_standingFor_70 ?_
            skip
            refine aw_is2 K dX6_standingFor_71 (by decide) rfl ?_
            refine aw_ii3 (v := _ + 1) K dX6_standingFor_72 rfl (by decide) rfl ?_
            refine aw_goto (tgt := 4) K dX6_standingFor_75 (by decide) ?_
            rw [nI_1]
            refine aw_sub [some (.ref (g.2.1 0)), some (.int a), some (.int _), some (.int _), none] ⟨rfl, rfl, rfl, rfl, trivial⟩ ?_
            refine ih (i + 1) _ (by omega) (by omega) ?_
            rw [hacc]
            rw [nI_clamp (show i < 2 ^ 31 by omega)] at *
            show _ = orU (fun t => if h.1 24 t = 2 ∧ h.1 22 t = a ∧ h.1 18 (h.1 21 t).toNatClampNeg = 0 then (1 : Int32) <<< (h.1 21 t &&& 31) else 0) i ||| (fun t => if h.1 24 t = 2 ∧ h.1 22 t = a ∧ h.1 18 (h.1 21 t).toNatClampNeg = 0 then (1 : Int32) <<< (h.1 21 t &&& 31) else 0) i
            exact congrArg (orU (fun t => if h.1 24 t = 2 ∧ h.1 22 t = a ∧ h.1 18 (h.1 21 t).toNatClampNeg = 0 then (1 : Int32) <<< (h.1 21 t &&& 31) else 0) i ||| ·) (if_pos ⟨b36, b49, b62⟩).symm
set_option maxHeartbeats 4000000 in
set_option maxRecDepth 100000 in
theorem tX6_standingFor (l : Launch) (g : Geo) (sta : Nat → Nat) (h : HS) (a : Int32) {N T Wn : Nat} (H : XW h N T Wn) : CT (wX l g sta) 2 mX6_standingFor [.ref (g.2.1 0), .int a] h (DI (orU (fun t => if h.1 24 t = 2 ∧ h.1 22 t = a ∧ h.1 18 (h.1 21 t).toNatClampNeg = 0 then (1 : Int32) <<< (h.1 21 t &&& 31) else 0) T) h) := by
  refine CT.at [some (.ref (g.2.1 0)), some (.int a), none, none, none] 3 rfl (by decide) (Nat.le_of_ble_eq_true rfl) (fun k K => ?_)
  refine aw_iconst (v := 0) K dX6_standingFor_0 (by decide) ?_
  refine aw_is2 K dX6_standingFor_1 (by decide) rfl ?_
  refine aw_iconst (v := 0) K dX6_standingFor_2 (by decide) ?_
  refine aw_is3 K dX6_standingFor_3 (by decide) rfl ?_
  exact lpX6_standingFor K h a H (T + 1) 0 0 (by omega) (by omega) rfl

