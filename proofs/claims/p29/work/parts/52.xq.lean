/-! the reference's pictures are the class's -/
theorem rmV_eq {hx hm : HS} (r : REL hx hm) (t : Nat) : rmV hm.1 t = rmV (vX hx) t := by
  unfold rmV
  rw [INV.b4 r, r.r (18, 3) (by decide), r.r (21, 6) (by decide), r.r (22, 7) (by decide), r.r (19, 4) (by decide), r.r (23, 8) (by decide), r.r (11, 11) (by decide), r.r (24, 9) (by decide), r.r (25, 10) (by decide)]
  rfl
theorem gvV_eq {hx hm : HS} (r : REL hx hm) (a : Nat) : gvV hm.1 a = gvV (vX hx) a := by
  unfold gvV
  rw [← plV_eq r, r.r (18, 3) (by decide), r.r (17, 2) (by decide), r.r (11, 11) (by decide)]
  rfl
theorem sumU_c {f q : Nat → Int32} : ∀ n, (∀ w, w < n → f w = q w) → sumU f n = sumU q n
  | 0, _ => rfl
  | n + 1, h => by
    unfold sumU
    rw [sumU_c n (fun w hw => h w (by omega)), h n (by omega)]
theorem tI {b : Int32} {k : Nat} (hk : k < 2 ^ 31) (h : b.toInt = (k : Int)) : b = nI k := Int32.toInt_inj.mp (by rw [h, nI_toInt hk])
theorem inK {b : Int32} {k : Nat} (hk : k < 2 ^ 31) : (0 ≤ b ∧ b ≤ nI k) ↔ (0 ≤ b.toInt ∧ b.toInt ≤ k) := by
  rw [Int32.le_iff_toInt_le, Int32.le_iff_toInt_le, nI_toInt hk]
  exact Iff.rfl
set_option maxHeartbeats 4000000 in
set_option maxRecDepth 100000 in
theorem eX6_fault (l : Launch) (g : Geo) (sta : Nat → Nat) (h : HS) : CT (wX l g sta) 7 mX6_fault [.ref (g.2.1 0)] h (DI (h.1 4 2) h) := by
  refine CT.at [some (.ref (g.2.1 0))] 0 rfl (by decide) (Nat.le_of_ble_eq_true rfl) (fun k K => ?_)
  refine aw_al0 K dX6_fault_0 ?_
  refine aw_getR K gX6_33 dX6_fault_1 rfl rfl ?_
  refine aw_getI K gX6_187 dX6_fault_4 rfl rfl ?_
  refine aw_iret K rfl dX6_fault_7 ?_
  exact ⟨rfl, rfl⟩

set_option maxHeartbeats 4000000 in
set_option maxRecDepth 100000 in
theorem eX6_lost (l : Launch) (g : Geo) (sta : Nat → Nat) (h : HS) : CT (wX l g sta) 7 mX6_lost [.ref (g.2.1 0)] h (DI (h.1 0 12) h) := by
  refine CT.at [some (.ref (g.2.1 0))] 0 rfl (by decide) (Nat.le_of_ble_eq_true rfl) (fun k K => ?_)
  refine aw_al0 K dX6_lost_0 ?_
  refine aw_getI K gX6_309 dX6_lost_1 rfl rfl ?_
  refine aw_iret K rfl dX6_lost_4 ?_
  exact ⟨rfl, rfl⟩

set_option maxHeartbeats 4000000 in
set_option maxRecDepth 100000 in
theorem eX6_rule (l : Launch) (g : Geo) (sta : Nat → Nat) (h : HS) (a : Int32) : CT (wX l g sta) 7 mX6_rule [.ref (g.2.1 0), .int a] h (DI (if 0 ≤ a ∧ a ≤ 9 then h.1 11 a.toNatClampNeg else -1) h) := by
  refine CT.at [some (.ref (g.2.1 0)), some (.int a)] 0 rfl (by decide) (Nat.le_of_ble_eq_true rfl) (fun k K => ?_)
  refine aw_il1 K dX6_rule_0 ?_
  refine aw_iconst (v := 0) K dX6_rule_1 (by decide) ?_
  refine aw_bipush (v := 9) K dX6_rule_2 (by decide) ?_
  refine aw_callS_I K (tX6_within l g sta _ _ _ _) rfl (by decide) fX6_within lX6_76 dX6_rule_4 rfl (Nat.le_of_ble_eq_true rfl) ?_
  refine aw_if_eq (tgt := 19) K dX6_rule_7 (by decide) (fun b7 => ?_) (fun b7 => ?_)
  · refine aw_iconst (v := (-1)) K dX6_rule_19 (by decide) ?_
    refine aw_iret K rfl dX6_rule_20 ?_
    exact ⟨congrArg some (congrArg Value.int (if_neg (bI_0.mp b7)).symm), rfl⟩
  · refine aw_al0 K dX6_rule_10 ?_
    refine aw_getR K gX6_50 dX6_rule_11 rfl rfl ?_
    refine aw_il1 K dX6_rule_14 ?_
    refine aw_iald K dX6_rule_15 rfl (inB (M := 9) (by decide) (bI_1.mp b7)) ?_
    refine aw_goto (tgt := 20) K dX6_rule_16 (by decide) ?_
    refine aw_iret K rfl dX6_rule_20 ?_
    exact ⟨congrArg some (congrArg Value.int (if_pos (bI_1.mp b7)).symm), rfl⟩

set_option maxHeartbeats 4000000 in
set_option maxRecDepth 100000 in
theorem eX6_tieOf (l : Launch) (g : Geo) (sta : Nat → Nat) (h : HS) (a b : Int32) {N T Wn : Nat} (H : XW h N T Wn) : CT (wX l g sta) 7 mX6_tieOf [.ref (g.2.1 0), .int a, .int b] h (DI (tofV (vX h) a b) h) := by
  refine CT.at [some (.ref (g.2.1 0)), some (.int a), some (.int b)] 0 rfl (by decide) (Nat.le_of_ble_eq_true rfl) (fun k K => ?_)
  refine aw_al0 K dX6_tieOf_0 ?_
  refine aw_il1 K dX6_tieOf_1 ?_
  refine aw_callV_I K (tX6_isTie l g sta _ _) rfl (by decide) fX6_isTie lX6_119 dX6_tieOf_2 rfl clsX6 rfl (Nat.le_of_ble_eq_true rfl) ?_
  refine aw_if_ne (tgt := 10) K dX6_tieOf_5 (by decide) (fun b5 => ?_) (fun b5 => ?_)
  · have ha : vp_in a 24 := inN H.2.1.1 H.2.1.2 (by decide) (bI_1.mp b5)
    refine aw_il2 K dX6_tieOf_10 ?_
    refine aw_tsw (tgt := 104) K dX6_tieOf_11 (by decide) (by decide) (by decide) ⟨fun s0 => ?_, fun s1 => ?_, fun s2 => ?_, fun s3 => ?_, fun s4 => ?_, fun s5 => ?_, trivial⟩ (fun sd => ?_)
    · show AW _ _ _ _ _ 48 _ _ _
      refine aw_al0 K dX6_tieOf_48 ?_
      refine aw_getR K gX6_19 dX6_tieOf_49 rfl rfl ?_
      refine aw_getR K gX6_122 dX6_tieOf_52 rfl rfl ?_
      refine aw_il1 K dX6_tieOf_55 ?_
      refine aw_iald K dX6_tieOf_56 rfl ha ?_
      refine aw_iret K rfl dX6_tieOf_57 ?_
      obtain rfl := tI (k := 0) (by decide) s0
      refine ⟨?_, rfl⟩
      rw [tofV, if_pos ⟨bI_1.mp b5, by decide⟩, if_pos (by decide)] <;> rfl
    · show AW _ _ _ _ _ 58 _ _ _
      refine aw_al0 K dX6_tieOf_58 ?_
      refine aw_getR K gX6_19 dX6_tieOf_59 rfl rfl ?_
      refine aw_getR K gX6_125 dX6_tieOf_62 rfl rfl ?_
      refine aw_il1 K dX6_tieOf_65 ?_
      refine aw_iald K dX6_tieOf_66 rfl ha ?_
      refine aw_iret K rfl dX6_tieOf_67 ?_
      obtain rfl := tI (k := 1) (by decide) s1
      refine ⟨?_, rfl⟩
      rw [tofV, if_pos ⟨bI_1.mp b5, by decide⟩, if_neg (by decide), if_pos (by decide)] <;> rfl
    · show AW _ _ _ _ _ 68 _ _ _
      refine aw_al0 K dX6_tieOf_68 ?_
      refine aw_getR K gX6_19 dX6_tieOf_69 rfl rfl ?_
      refine aw_getR K gX6_128 dX6_tieOf_72 rfl rfl ?_
      refine aw_il1 K dX6_tieOf_75 ?_
      refine aw_iald K dX6_tieOf_76 rfl ha ?_
      refine aw_iret K rfl dX6_tieOf_77 ?_
      obtain rfl := tI (k := 2) (by decide) s2
      refine ⟨?_, rfl⟩
      rw [tofV, if_pos ⟨bI_1.mp b5, by decide⟩, if_neg (by decide), if_neg (by decide), if_pos (by decide)] <;> rfl
    · show AW _ _ _ _ _ 78 _ _ _
      refine aw_al0 K dX6_tieOf_78 ?_
      refine aw_getR K gX6_19 dX6_tieOf_79 rfl rfl ?_
      refine aw_getR K gX6_131 dX6_tieOf_82 rfl rfl ?_
      refine aw_il1 K dX6_tieOf_85 ?_
      refine aw_iald K dX6_tieOf_86 rfl ha ?_
      refine aw_iret K rfl dX6_tieOf_87 ?_
      obtain rfl := tI (k := 3) (by decide) s3
      refine ⟨?_, rfl⟩
      rw [tofV, if_pos ⟨bI_1.mp b5, by decide⟩, if_neg (by decide), if_neg (by decide), if_neg (by decide), if_pos (by decide)] <;> rfl
    · show AW _ _ _ _ _ 88 _ _ _
      refine aw_al0 K dX6_tieOf_88 ?_
      refine aw_getR K gX6_19 dX6_tieOf_89 rfl rfl ?_
      refine aw_getR K gX6_134 dX6_tieOf_92 rfl rfl ?_
      refine aw_il1 K dX6_tieOf_95 ?_
      refine aw_iald K dX6_tieOf_96 rfl ha ?_
      refine aw_iret K rfl dX6_tieOf_97 ?_
      obtain rfl := tI (k := 4) (by decide) s4
      refine ⟨?_, rfl⟩
      rw [tofV, if_pos ⟨bI_1.mp b5, by decide⟩, if_neg (by decide), if_neg (by decide), if_neg (by decide), if_neg (by decide), if_pos (by decide)] <;> rfl
    · show AW _ _ _ _ _ 98 _ _ _
      refine aw_al0 K dX6_tieOf_98 ?_
      refine aw_il1 K dX6_tieOf_99 ?_
      refine aw_callV_I K (tX6_roomOf l g sta _ _ ha H) rfl (by decide) fX6_roomOf lX6_137 dX6_tieOf_100 rfl clsX6 rfl (Nat.le_of_ble_eq_true rfl) ?_
      refine aw_iret K rfl dX6_tieOf_103 ?_
      obtain rfl := tI (k := 5) (by decide) s5
      refine ⟨?_, rfl⟩
      rw [tofV, if_pos ⟨bI_1.mp b5, by decide⟩, if_neg (by decide), if_neg (by decide), if_neg (by decide), if_neg (by decide), if_neg (by decide)] <;> rfl
    · show AW _ _ _ _ _ 104 _ _ _
      refine aw_iconst (v := (-1)) K dX6_tieOf_104 (by decide) ?_
      refine aw_iret K rfl dX6_tieOf_105 ?_
      refine ⟨?_, rfl⟩
      rw [tofV, if_neg (fun q => by have := (inK (k := 5) (by decide)).mp q.2; omega)]
  · refine aw_iconst (v := (-1)) K dX6_tieOf_8 (by decide) ?_
    refine aw_iret K rfl dX6_tieOf_9 ?_
    refine ⟨?_, rfl⟩
    rw [tofV, if_neg (fun q => bI_0.mp b5 q.1)]

theorem tof_eq {hx hm : HS} (r : REL hx hm) (a b : Int32) : tofV (vX hx) a b = tofV hm.1 a b := by
  unfold tofV
  rw [rmV_eq r, INV.b2 r, r.r (21, 6) (by decide), r.r (22, 7) (by decide), r.r (23, 8) (by decide), r.r (24, 9) (by decide), r.r (25, 10) (by decide)]
  rfl
def opV (h : HS) (a : Int32) (T : Nat) : Int32 := sumU (fun t => bI ((¬ (a >>> (h.1 21 t &&& 31)) &&& 1 = 0 ∨ ¬ (a >>> (h.1 22 t &&& 31)) &&& 1 = 0) ∧ 0 < rmV (vX h) t)) T
set_option maxHeartbeats 4000000 in
set_option maxRecDepth 100000 in
theorem lpeX6_openTies {l : Launch} {g : Geo} {sta : Nat → Nat} {k : KT} (K : AOK (wX l g sta) mX6_openTies k) (h : HS) (a : Int32) {N T Wn : Nat} (H : XW h N T Wn) :
    ∀ (n i : Nat), i + n = T → AW (wX l g sta) (DI (opV h a T) h) 4 mX6_openTies k 4 [some (.ref (g.2.1 0)), some (.int a), some (.int (opV h a i)), some (.int (nI i)), none] [] h := by
  intro n
  have h3 := H.2.1.2
  induction n with
  | zero =>
    intro i k1
    obtain rfl : i = T := by omega
    refine aw_il3 K dX6_openTies_4 ?_
    refine aw_al0 K dX6_openTies_5 ?_
    refine aw_getR K gX6_19 dX6_openTies_6 rfl rfl ?_
    refine aw_getI K gX6_109 dX6_openTies_9 rfl rfl ?_
    rw [H.2.1.1]
    refine aw_icmp_ge (tgt := 84) K dX6_openTies_12 (by decide) (fun b12 => ?_) (fun b12 => ?_)
    · refine aw_il2 K dX6_openTies_84 ?_
      refine aw_iret K rfl dX6_openTies_85 ?_
      exact ⟨rfl, rfl⟩
    · exact absurd (Int32.le_refl _) b12
  | succ n ih =>
    intro i k1
    refine aw_il3 K dX6_openTies_4 ?_
    refine aw_al0 K dX6_openTies_5 ?_
    refine aw_getR K gX6_19 dX6_openTies_6 rfl rfl ?_
    refine aw_getI K gX6_109 dX6_openTies_9 rfl rfl ?_
    rw [H.2.1.1]
    refine aw_icmp_ge (tgt := 84) K dX6_openTies_12 (by decide) (fun b12 => ?_) (fun b12 => ?_)
    · exact absurd b12 (nI_ge (by omega) (by omega))
    · refine aw_il1 K dX6_openTies_15 ?_
      refine aw_al0 K dX6_openTies_16 ?_
      refine aw_getR K gX6_19 dX6_openTies_17 rfl rfl ?_
      refine aw_getR K gX6_122 dX6_openTies_20 rfl rfl ?_
      refine aw_il3 K dX6_openTies_23 ?_
      refine aw_iald K dX6_openTies_24 rfl (vp_in_nI (by omega) (by decide)) ?_
      rw [nI_clamp (show i < 2 ^ 31 by omega)]
      refine aw_callS_I K (tX6_hasBit l g sta _ _ _) rfl (by decide) fX6_hasBit lX6_162 dX6_openTies_25 rfl (Nat.le_of_ble_eq_true rfl) ?_
      refine aw_if_ne (tgt := 47) K dX6_openTies_28 (by decide) (fun b28 => ?_) (fun b28 => ?_)
      · refine aw_iconst (v := 1) K dX6_openTies_47 (by decide) ?_
        refine aw_goto (tgt := 52) K dX6_openTies_48 (by decide) ?_
        refine aw_is4 K dX6_openTies_52 (by decide) rfl ?_
        refine aw_il2 K dX6_openTies_54 ?_
        refine aw_il4 K dX6_openTies_55 ?_
        refine aw_if_eq (tgt := 72) K dX6_openTies_57 (by decide) (fun b57 => ?_) (fun b57 => ?_)
        · refine aw_iconst (v := 0) K dX6_openTies_72 (by decide) ?_
          refine aw_callS_I K (tX6_oneIf l g sta _ _) rfl (by decide) fX6_oneIf lX6_92 dX6_openTies_73 rfl (Nat.le_of_ble_eq_true rfl) ?_
          refine aw_iadd K dX6_openTies_76 ?_
          refine aw_is2 K dX6_openTies_77 (by decide) rfl ?_
          refine aw_ii3 (v := _ + 1) K dX6_openTies_78 rfl (by decide) rfl ?_
          refine aw_goto (tgt := 4) K dX6_openTies_81 (by decide) ?_
          rw [nI_1]
          refine aw_sub [some (.ref (g.2.1 0)), some (.int _), some (.int _), some (.int _), none] ⟨rfl, rfl, rfl, rfl, trivial⟩ ?_
          exact absurd b57 (by decide)
        · refine aw_al0 K dX6_openTies_60 ?_
          refine aw_il3 K dX6_openTies_61 ?_
          refine aw_callV_I K (tX6_roomOf l g sta _ _ (vp_in_nI (by omega) (by decide)) H) rfl (by decide) fX6_roomOf lX6_137 dX6_openTies_62 rfl clsX6 rfl (Nat.le_of_ble_eq_true rfl) ?_
          rw [nI_clamp (show i < 2 ^ 31 by omega)]
          refine aw_if_le (tgt := 72) K dX6_openTies_65 (by decide) (fun b65 => ?_) (fun b65 => ?_)
          · refine aw_iconst (v := 0) K dX6_openTies_72 (by decide) ?_
            refine aw_callS_I K (tX6_oneIf l g sta _ _) rfl (by decide) fX6_oneIf lX6_92 dX6_openTies_73 rfl (Nat.le_of_ble_eq_true rfl) ?_
            refine aw_iadd K dX6_openTies_76 ?_
            refine aw_is2 K dX6_openTies_77 (by decide) rfl ?_
            refine aw_ii3 (v := _ + 1) K dX6_openTies_78 rfl (by decide) rfl ?_
            refine aw_goto (tgt := 4) K dX6_openTies_81 (by decide) ?_
            rw [nI_1]
            refine aw_sub [some (.ref (g.2.1 0)), some (.int _), some (.int _), some (.int _), none] ⟨rfl, rfl, rfl, rfl, trivial⟩ ?_
            have z := ih (i + 1) (by omega)
            rw [show opV h a (i + 1) = opV h a i + 0 from congrArg (opV h a i + ·) (bI_f (fun q => Int32.not_lt.mpr b65 q.2))] at z
            exact z
          · refine aw_iconst (v := 1) K dX6_openTies_68 (by decide) ?_
            refine aw_goto (tgt := 73) K dX6_openTies_69 (by decide) ?_
            refine aw_callS_I K (tX6_oneIf l g sta _ _) rfl (by decide) fX6_oneIf lX6_92 dX6_openTies_73 rfl (Nat.le_of_ble_eq_true rfl) ?_
            refine aw_iadd K dX6_openTies_76 ?_
            refine aw_is2 K dX6_openTies_77 (by decide) rfl ?_
            refine aw_ii3 (v := _ + 1) K dX6_openTies_78 rfl (by decide) rfl ?_
            refine aw_goto (tgt := 4) K dX6_openTies_81 (by decide) ?_
            rw [nI_1]
            refine aw_sub [some (.ref (g.2.1 0)), some (.int _), some (.int _), some (.int _), none] ⟨rfl, rfl, rfl, rfl, trivial⟩ ?_
            have z := ih (i + 1) (by omega)
            rw [show opV h a (i + 1) = opV h a i + 1 from congrArg (opV h a i + ·) (bI_t ⟨Or.inl (bI_1.mp b28), Int32.not_le.mp b65⟩)] at z
            exact z
      · refine aw_il1 K dX6_openTies_31 ?_
        refine aw_al0 K dX6_openTies_32 ?_
        refine aw_getR K gX6_19 dX6_openTies_33 rfl rfl ?_
        refine aw_getR K gX6_125 dX6_openTies_36 rfl rfl ?_
        refine aw_il3 K dX6_openTies_39 ?_
        refine aw_iald K dX6_openTies_40 rfl (vp_in_nI (by omega) (by decide)) ?_
        rw [nI_clamp (show i < 2 ^ 31 by omega)]
        refine aw_callS_I K (tX6_hasBit l g sta _ _ _) rfl (by decide) fX6_hasBit lX6_162 dX6_openTies_41 rfl (Nat.le_of_ble_eq_true rfl) ?_
        refine aw_if_eq (tgt := 51) K dX6_openTies_44 (by decide) (fun b44 => ?_) (fun b44 => ?_)
        · refine aw_iconst (v := 0) K dX6_openTies_51 (by decide) ?_
          refine aw_is4 K dX6_openTies_52 (by decide) rfl ?_
          refine aw_il2 K dX6_openTies_54 ?_
          refine aw_il4 K dX6_openTies_55 ?_
          refine aw_if_eq (tgt := 72) K dX6_openTies_57 (by decide) (fun b57 => ?_) (fun b57 => ?_)
          · refine aw_iconst (v := 0) K dX6_openTies_72 (by decide) ?_
            refine aw_callS_I K (tX6_oneIf l g sta _ _) rfl (by decide) fX6_oneIf lX6_92 dX6_openTies_73 rfl (Nat.le_of_ble_eq_true rfl) ?_
            refine aw_iadd K dX6_openTies_76 ?_
            refine aw_is2 K dX6_openTies_77 (by decide) rfl ?_
            refine aw_ii3 (v := _ + 1) K dX6_openTies_78 rfl (by decide) rfl ?_
            refine aw_goto (tgt := 4) K dX6_openTies_81 (by decide) ?_
            rw [nI_1]
            refine aw_sub [some (.ref (g.2.1 0)), some (.int _), some (.int _), some (.int _), none] ⟨rfl, rfl, rfl, rfl, trivial⟩ ?_
            have z := ih (i + 1) (by omega)
            rw [show opV h a (i + 1) = opV h a i + 0 from congrArg (opV h a i + ·) (bI_f (fun q => q.1.elim (bI_0.mp b28) (bI_0.mp b44)))] at z
            exact z
          · refine aw_al0 K dX6_openTies_60 ?_
            refine aw_il3 K dX6_openTies_61 ?_
            refine aw_callV_I K (tX6_roomOf l g sta _ _ (vp_in_nI (by omega) (by decide)) H) rfl (by decide) fX6_roomOf lX6_137 dX6_openTies_62 rfl clsX6 rfl (Nat.le_of_ble_eq_true rfl) ?_
            rw [nI_clamp (show i < 2 ^ 31 by omega)]
            refine aw_if_le (tgt := 72) K dX6_openTies_65 (by decide) (fun b65 => ?_) (fun b65 => ?_)
            · refine aw_iconst (v := 0) K dX6_openTies_72 (by decide) ?_
              refine aw_callS_I K (tX6_oneIf l g sta _ _) rfl (by decide) fX6_oneIf lX6_92 dX6_openTies_73 rfl (Nat.le_of_ble_eq_true rfl) ?_
              refine aw_iadd K dX6_openTies_76 ?_
              refine aw_is2 K dX6_openTies_77 (by decide) rfl ?_
              refine aw_ii3 (v := _ + 1) K dX6_openTies_78 rfl (by decide) rfl ?_
              refine aw_goto (tgt := 4) K dX6_openTies_81 (by decide) ?_
              rw [nI_1]
              refine aw_sub [some (.ref (g.2.1 0)), some (.int _), some (.int _), some (.int _), none] ⟨rfl, rfl, rfl, rfl, trivial⟩ ?_
              exact absurd rfl b57
            · refine aw_iconst (v := 1) K dX6_openTies_68 (by decide) ?_
              refine aw_goto (tgt := 73) K dX6_openTies_69 (by decide) ?_
              refine aw_callS_I K (tX6_oneIf l g sta _ _) rfl (by decide) fX6_oneIf lX6_92 dX6_openTies_73 rfl (Nat.le_of_ble_eq_true rfl) ?_
              refine aw_iadd K dX6_openTies_76 ?_
              refine aw_is2 K dX6_openTies_77 (by decide) rfl ?_
              refine aw_ii3 (v := _ + 1) K dX6_openTies_78 rfl (by decide) rfl ?_
              refine aw_goto (tgt := 4) K dX6_openTies_81 (by decide) ?_
              rw [nI_1]
              refine aw_sub [some (.ref (g.2.1 0)), some (.int _), some (.int _), some (.int _), none] ⟨rfl, rfl, rfl, rfl, trivial⟩ ?_
              exact absurd rfl b57
        · refine aw_iconst (v := 1) K dX6_openTies_47 (by decide) ?_
          refine aw_goto (tgt := 52) K dX6_openTies_48 (by decide) ?_
          refine aw_is4 K dX6_openTies_52 (by decide) rfl ?_
          refine aw_il2 K dX6_openTies_54 ?_
          refine aw_il4 K dX6_openTies_55 ?_
          refine aw_if_eq (tgt := 72) K dX6_openTies_57 (by decide) (fun b57 => ?_) (fun b57 => ?_)
          · refine aw_iconst (v := 0) K dX6_openTies_72 (by decide) ?_
            refine aw_callS_I K (tX6_oneIf l g sta _ _) rfl (by decide) fX6_oneIf lX6_92 dX6_openTies_73 rfl (Nat.le_of_ble_eq_true rfl) ?_
            refine aw_iadd K dX6_openTies_76 ?_
            refine aw_is2 K dX6_openTies_77 (by decide) rfl ?_
            refine aw_ii3 (v := _ + 1) K dX6_openTies_78 rfl (by decide) rfl ?_
            refine aw_goto (tgt := 4) K dX6_openTies_81 (by decide) ?_
            rw [nI_1]
            refine aw_sub [some (.ref (g.2.1 0)), some (.int _), some (.int _), some (.int _), none] ⟨rfl, rfl, rfl, rfl, trivial⟩ ?_
            exact absurd b57 (by decide)
          · refine aw_al0 K dX6_openTies_60 ?_
            refine aw_il3 K dX6_openTies_61 ?_
            refine aw_callV_I K (tX6_roomOf l g sta _ _ (vp_in_nI (by omega) (by decide)) H) rfl (by decide) fX6_roomOf lX6_137 dX6_openTies_62 rfl clsX6 rfl (Nat.le_of_ble_eq_true rfl) ?_
            rw [nI_clamp (show i < 2 ^ 31 by omega)]
            refine aw_if_le (tgt := 72) K dX6_openTies_65 (by decide) (fun b65 => ?_) (fun b65 => ?_)
            · refine aw_iconst (v := 0) K dX6_openTies_72 (by decide) ?_
              refine aw_callS_I K (tX6_oneIf l g sta _ _) rfl (by decide) fX6_oneIf lX6_92 dX6_openTies_73 rfl (Nat.le_of_ble_eq_true rfl) ?_
              refine aw_iadd K dX6_openTies_76 ?_
              refine aw_is2 K dX6_openTies_77 (by decide) rfl ?_
              refine aw_ii3 (v := _ + 1) K dX6_openTies_78 rfl (by decide) rfl ?_
              refine aw_goto (tgt := 4) K dX6_openTies_81 (by decide) ?_
              rw [nI_1]
              refine aw_sub [some (.ref (g.2.1 0)), some (.int _), some (.int _), some (.int _), none] ⟨rfl, rfl, rfl, rfl, trivial⟩ ?_
              have z := ih (i + 1) (by omega)
              rw [show opV h a (i + 1) = opV h a i + 0 from congrArg (opV h a i + ·) (bI_f (fun q => Int32.not_lt.mpr b65 q.2))] at z
              exact z
            · refine aw_iconst (v := 1) K dX6_openTies_68 (by decide) ?_
              refine aw_goto (tgt := 73) K dX6_openTies_69 (by decide) ?_
              refine aw_callS_I K (tX6_oneIf l g sta _ _) rfl (by decide) fX6_oneIf lX6_92 dX6_openTies_73 rfl (Nat.le_of_ble_eq_true rfl) ?_
              refine aw_iadd K dX6_openTies_76 ?_
              refine aw_is2 K dX6_openTies_77 (by decide) rfl ?_
              refine aw_ii3 (v := _ + 1) K dX6_openTies_78 rfl (by decide) rfl ?_
              refine aw_goto (tgt := 4) K dX6_openTies_81 (by decide) ?_
              rw [nI_1]
              refine aw_sub [some (.ref (g.2.1 0)), some (.int _), some (.int _), some (.int _), none] ⟨rfl, rfl, rfl, rfl, trivial⟩ ?_
              have z := ih (i + 1) (by omega)
              rw [show opV h a (i + 1) = opV h a i + 1 from congrArg (opV h a i + ·) (bI_t ⟨Or.inr (bI_1.mp b44), Int32.not_le.mp b65⟩)] at z
              exact z
set_option maxHeartbeats 4000000 in
set_option maxRecDepth 100000 in
theorem eX6_openTies (l : Launch) (g : Geo) (sta : Nat → Nat) (h : HS) (a : Int32) {N T Wn : Nat} (H : XW h N T Wn) : CT (wX l g sta) 4 mX6_openTies [.ref (g.2.1 0), .int a] h (DI (opV h a T) h) := by
  refine CT.at [some (.ref (g.2.1 0)), some (.int a), none, none, none] 3 rfl (by decide) (Nat.le_of_ble_eq_true rfl) (fun k K => ?_)
  refine aw_iconst (v := 0) K dX6_openTies_0 (by decide) ?_
  refine aw_is2 K dX6_openTies_1 (by decide) rfl ?_
  refine aw_iconst (v := 0) K dX6_openTies_2 (by decide) ?_
  refine aw_is3 K dX6_openTies_3 (by decide) rfl ?_
  exact lpeX6_openTies K h a H T 0 (by omega)

theorem bit_one {j : Nat} (hj : j < 12) {x : Int32} (hx : vp_in x 12) : ¬ (((1 : Int32) <<< (nI j &&& 31)) >>> (x &&& 31)) &&& 1 = 0 ↔ x = nI j := by
  obtain ⟨i, hi, rfl⟩ := vp_in_of hx (by decide)
  rw [hb_i (by omega), b_sh1 (by omega) (by omega), decide_eq_true_iff, nI_eq (by omega) (by omega)]
theorem bit_all {x : Int32} (hx : vp_in x 12) : ¬ ((4095 : Int32) >>> (x &&& 31)) &&& 1 = 0 := by
  obtain ⟨i, hi, rfl⟩ := vp_in_of hx (by decide)
  have q : ∀ i : Fin 12, ¬ ((4095 : Int32) >>> (nI i.1 &&& 31)) &&& 1 = 0 := by decide
  exact q ⟨i, hi⟩
theorem op_mny {hx : HS} {N T Wn j : Nat} (H : XW hx N T Wn) (hj : j < 12) : opV hx ((1 : Int32) <<< (nI j &&& 31)) T = mnyV (vX hx) (nI j) T := by
  unfold opV mnyV
  refine sumU_c T (fun t _ => bI_congr ?_)
  rw [bit_one hj (H.2.2.2.1 t), bit_one hj (H.2.2.2.2.1 t)]
  exact Iff.rfl
theorem op_all {hx : HS} {N T Wn : Nat} (H : XW hx N T Wn) : opV hx 4095 T = sumU (fun t => bI (0 < rmV (vX hx) t)) T := by
  unfold opV
  exact sumU_c T (fun t _ => bI_congr ⟨fun q => q.2, fun q => ⟨Or.inl (bit_all (H.2.2.2.1 t)), q⟩⟩)
set_option maxHeartbeats 4000000 in
set_option maxRecDepth 100000 in
theorem eX6_of (l : Launch) (g : Geo) (sta : Nat → Nat) (h : HS) (a b : Int32) {N T Wn : Nat} (H : XW h N T Wn) : CT (wX l g sta) 7 mX6_of [.ref (g.2.1 0), .int a, .int b] h (DI (ofV (vX h) a b T) h) := by
  refine CT.at [some (.ref (g.2.1 0)), some (.int a), some (.int b)] 0 rfl (by decide) (Nat.le_of_ble_eq_true rfl) (fun k K => ?_)
  refine aw_al0 K dX6_of_0 ?_
  refine aw_il1 K dX6_of_1 ?_
  refine aw_callV_I K (tX6_isName l g sta _ _) rfl (by decide) fX6_isName lX6_84 dX6_of_2 rfl clsX6 rfl (Nat.le_of_ble_eq_true rfl) ?_
  refine aw_if_ne (tgt := 10) K dX6_of_5 (by decide) (fun b5 => ?_) (fun b5 => ?_)
  · have ha : vp_in a 12 := inN H.1.1 H.1.2 (by decide) (bI_1.mp b5)
    refine aw_il2 K dX6_of_10 ?_
    refine aw_tsw (tgt := 121) K dX6_of_11 (by decide) (by decide) (by decide) ⟨fun s0 => ?_, fun s1 => ?_, fun s2 => ?_, fun s3 => ?_, fun s4 => ?_, fun s5 => ?_, fun s6 => ?_, trivial⟩ (fun sd => ?_)
    · show AW _ _ _ _ _ 52 _ _ _
      refine aw_al0 K dX6_of_52 ?_
      refine aw_getR K gX6_12 dX6_of_53 rfl rfl ?_
      refine aw_getR K gX6_143 dX6_of_56 rfl rfl ?_
      refine aw_il1 K dX6_of_59 ?_
      refine aw_iald K dX6_of_60 rfl ha ?_
      refine aw_iret K rfl dX6_of_61 ?_
      refine ⟨?_, rfl⟩
      rw [ofV, if_pos ⟨bI_1.mp b5, (inK (k := 6) (by decide)).mpr (by omega)⟩, if_pos (show b.toInt = 0 from s0)] <;> rfl
    · show AW _ _ _ _ _ 62 _ _ _
      refine aw_al0 K dX6_of_62 ?_
      refine aw_getR K gX6_12 dX6_of_63 rfl rfl ?_
      refine aw_getR K gX6_88 dX6_of_66 rfl rfl ?_
      refine aw_il1 K dX6_of_69 ?_
      refine aw_zald K dX6_of_70 rfl ha ?_
      refine aw_callS_I K (tX6_oneIf l g sta _ _) rfl (by decide) fX6_oneIf lX6_92 dX6_of_71 rfl (Nat.le_of_ble_eq_true rfl) ?_
      refine aw_iret K rfl dX6_of_74 ?_
      refine ⟨?_, rfl⟩
      rw [ofV, if_pos ⟨bI_1.mp b5, (inK (k := 6) (by decide)).mpr (by omega)⟩, if_neg (show ¬ b.toInt = 0 by omega), if_pos (show b.toInt = 1 from s1)] <;> rfl
    · show AW _ _ _ _ _ 75 _ _ _
      refine aw_al0 K dX6_of_75 ?_
      refine aw_getR K gX6_12 dX6_of_76 rfl rfl ?_
      refine aw_getR K gX6_96 dX6_of_79 rfl rfl ?_
      refine aw_il1 K dX6_of_82 ?_
      refine aw_zald K dX6_of_83 rfl ha ?_
      refine aw_callS_I K (tX6_oneIf l g sta _ _) rfl (by decide) fX6_oneIf lX6_92 dX6_of_84 rfl (Nat.le_of_ble_eq_true rfl) ?_
      refine aw_iret K rfl dX6_of_87 ?_
      refine ⟨?_, rfl⟩
      rw [ofV, if_pos ⟨bI_1.mp b5, (inK (k := 6) (by decide)).mpr (by omega)⟩, if_neg (show ¬ b.toInt = 0 by omega), if_neg (show ¬ b.toInt = 1 by omega), if_pos (show b.toInt = 2 from s2)] <;> rfl
    · show AW _ _ _ _ _ 88 _ _ _
      refine aw_al0 K dX6_of_88 ?_
      refine aw_il1 K dX6_of_89 ?_
      refine aw_callV_I K (tX6_isFined l g sta _ _ ha) rfl (by decide) fX6_isFined lX6_146 dX6_of_90 rfl clsX6 rfl (Nat.le_of_ble_eq_true rfl) ?_
      refine aw_callS_I K (tX6_oneIf l g sta _ _) rfl (by decide) fX6_oneIf lX6_92 dX6_of_93 rfl (Nat.le_of_ble_eq_true rfl) ?_
      refine aw_iret K rfl dX6_of_96 ?_
      refine ⟨?_, rfl⟩
      rw [bIb, ofV, if_pos ⟨bI_1.mp b5, (inK (k := 6) (by decide)).mpr (by omega)⟩, if_neg (show ¬ b.toInt = 0 by omega), if_neg (show ¬ b.toInt = 1 by omega), if_neg (show ¬ b.toInt = 2 by omega), if_pos (show b.toInt = 3 from s3)] <;> rfl
    · show AW _ _ _ _ _ 97 _ _ _
      refine aw_al0 K dX6_of_97 ?_
      refine aw_getR K gX6_12 dX6_of_98 rfl rfl ?_
      refine aw_getR K gX6_149 dX6_of_101 rfl rfl ?_
      refine aw_il1 K dX6_of_104 ?_
      refine aw_iald K dX6_of_105 rfl ha ?_
      refine aw_iret K rfl dX6_of_106 ?_
      refine ⟨?_, rfl⟩
      rw [ofV, if_pos ⟨bI_1.mp b5, (inK (k := 6) (by decide)).mpr (by omega)⟩, if_neg (show ¬ b.toInt = 0 by omega), if_neg (show ¬ b.toInt = 1 by omega), if_neg (show ¬ b.toInt = 2 by omega), if_neg (show ¬ b.toInt = 3 by omega), if_pos (show b.toInt = 4 from s4)] <;> rfl
    · show AW _ _ _ _ _ 107 _ _ _
      refine aw_al0 K dX6_of_107 ?_
      refine aw_il1 K dX6_of_108 ?_
      refine aw_callV_I K (tX6_givenTo l g sta _ _ ha) rfl (by decide) fX6_givenTo lX6_152 dX6_of_109 rfl clsX6 rfl (Nat.le_of_ble_eq_true rfl) ?_
      refine aw_iret K rfl dX6_of_112 ?_
      refine ⟨?_, rfl⟩
      rw [ofV, if_pos ⟨bI_1.mp b5, (inK (k := 6) (by decide)).mpr (by omega)⟩, if_neg (show ¬ b.toInt = 0 by omega), if_neg (show ¬ b.toInt = 1 by omega), if_neg (show ¬ b.toInt = 2 by omega), if_neg (show ¬ b.toInt = 3 by omega), if_neg (show ¬ b.toInt = 4 by omega), if_pos (show b.toInt = 5 from s5)] <;> rfl
    · show AW _ _ _ _ _ 113 _ _ _
      refine aw_al0 K dX6_of_113 ?_
      refine aw_iconst (v := 1) K dX6_of_114 (by decide) ?_
      refine aw_il1 K dX6_of_115 ?_
      refine aw_ishl K dX6_of_116 ?_
      refine aw_callV_I K (eX6_openTies l g sta _ _ H) rfl (by decide) fX6_openTies lX6_155 dX6_of_117 rfl clsX6 rfl (Nat.le_of_ble_eq_true rfl) ?_
      refine aw_iret K rfl dX6_of_120 ?_
      obtain ⟨j, hj, rfl⟩ := vp_in_of ha (by decide)
      refine ⟨?_, rfl⟩
      rw [op_mny H hj, ofV, if_pos ⟨bI_1.mp b5, (inK (k := 6) (by decide)).mpr (by omega)⟩, if_neg (show ¬ b.toInt = 0 by omega), if_neg (show ¬ b.toInt = 1 by omega), if_neg (show ¬ b.toInt = 2 by omega), if_neg (show ¬ b.toInt = 3 by omega), if_neg (show ¬ b.toInt = 4 by omega), if_neg (show ¬ b.toInt = 5 by omega)] <;> rfl
    · show AW _ _ _ _ _ 121 _ _ _
      refine aw_iconst (v := (-1)) K dX6_of_121 (by decide) ?_
      refine aw_iret K rfl dX6_of_122 ?_
      refine ⟨?_, rfl⟩
      rw [ofV, if_neg (fun q => by have := (inK (k := 6) (by decide)).mp q.2; omega)]
  · refine aw_iconst (v := (-1)) K dX6_of_8 (by decide) ?_
    refine aw_iret K rfl dX6_of_9 ?_
    refine ⟨?_, rfl⟩
    rw [ofV, if_neg (fun q => bI_0.mp b5 q.1)]

theorem of_eq {hx hm : HS} (r : REL hx hm) (a b : Int32) (T : Nat) : ofV (vX hx) a b T = ofV hm.1 a b T := by
  have em : mnyV hm.1 a T = mnyV (vX hx) a T := by
    unfold mnyV
    refine sumU_c T (fun t _ => ?_)
    rw [rmV_eq r, r.r (21, 6) (by decide), r.r (22, 7) (by decide)]
    rfl
  unfold ofV
  rw [gvV_eq r, em, INV.b1 r, INV.b4 r, r.r (16, 1) (by decide), r.r (17, 2) (by decide), r.r (18, 3) (by decide), r.r (19, 4) (by decide)]
  rfl
/-- the word of a about b that the class counts: the last with a first of its deal -/
def cgV (h : HS) (a b : Int32) : Nat → Int32
  | 0 => -4
  | n + 1 => if ¬ h.1 32 n = 0 ∧ h.1 26 n = a ∧ h.1 27 n = b then nI n else cgV h a b n
set_option maxHeartbeats 4000000 in
set_option maxRecDepth 100000 in
theorem lpeX5_countingOf {l : Launch} {g : Geo} {sta : Nat → Nat} {k : KT} (K : AOK (wX l g sta) mX5_countingOf k) (h : HS) (a b : Int32) (r : Int32) :
    ∀ (n : Nat), n ≤ 24 → cgV h a b n = r → AW (wX l g sta) (DI r h) 1 mX5_countingOf k 7 [some (.ref (g.2.1 3)), some (.int a), some (.int b), some (.int (nI n - 1))] [] h := by
  intro n
  induction n with
  | zero =>
    intro k1 k2
    obtain rfl : (-4 : Int32) = r := k2
    refine aw_il3 K dX5_countingOf_7 ?_
    refine aw_if_lt (tgt := 48) K dX5_countingOf_8 (by decide) (fun b8 => ?_) (fun b8 => ?_)
    · refine aw_bipush (v := (-4)) K dX5_countingOf_48 (by decide) ?_
      refine aw_iret K rfl dX5_countingOf_50 ?_
      exact ⟨rfl, rfl⟩
    · exact absurd (by decide) b8
  | succ n ih =>
    intro k1 k2
    unfold cgV at k2
    rw [nI_pred]
    refine aw_il3 K dX5_countingOf_7 ?_
    refine aw_if_lt (tgt := 48) K dX5_countingOf_8 (by decide) (fun b8 => ?_) (fun b8 => ?_)
    · exact absurd b8 (nI_pos (by omega))
    · refine aw_al0 K dX5_countingOf_11 ?_
      refine aw_getR K gX5_30 dX5_countingOf_12 rfl rfl ?_
      refine aw_il3 K dX5_countingOf_15 ?_
      refine aw_zald K dX5_countingOf_16 rfl (vp_in_nI (by omega) (by decide)) ?_
      rw [nI_clamp (show n < 2 ^ 31 by omega)]
      refine aw_if_eq (tgt := 42) K dX5_countingOf_17 (by decide) (fun b17 => ?_) (fun b17 => ?_)
      · refine aw_ii3 (v := _ + (-1)) K dX5_countingOf_42 rfl (by decide) rfl ?_
        refine aw_goto (tgt := 7) K dX5_countingOf_45 (by decide) ?_
        rw [if_neg (fun q => q.1 b17)] at k2
        rw [show nI n + -1 = nI n - 1 from (Int32.sub_eq_add_neg _ _).symm]
        exact ih (by omega) k2
      · refine aw_al0 K dX5_countingOf_20 ?_
        refine aw_getR K gX5_9 dX5_countingOf_21 rfl rfl ?_
        refine aw_il3 K dX5_countingOf_24 ?_
        refine aw_iald K dX5_countingOf_25 rfl (vp_in_nI (by omega) (by decide)) ?_
        rw [nI_clamp (show n < 2 ^ 31 by omega)]
        refine aw_il1 K dX5_countingOf_26 ?_
        refine aw_icmp_ne (tgt := 42) K dX5_countingOf_27 (by decide) (fun b27 => ?_) (fun b27 => ?_)
        · refine aw_ii3 (v := _ + (-1)) K dX5_countingOf_42 rfl (by decide) rfl ?_
          refine aw_goto (tgt := 7) K dX5_countingOf_45 (by decide) ?_
          rw [if_neg (fun q => b27 q.2.1)] at k2
          rw [show nI n + -1 = nI n - 1 from (Int32.sub_eq_add_neg _ _).symm]
          exact ih (by omega) k2
        · refine aw_al0 K dX5_countingOf_30 ?_
          refine aw_getR K gX5_15 dX5_countingOf_31 rfl rfl ?_
          refine aw_il3 K dX5_countingOf_34 ?_
          refine aw_iald K dX5_countingOf_35 rfl (vp_in_nI (by omega) (by decide)) ?_
          rw [nI_clamp (show n < 2 ^ 31 by omega)]
          refine aw_il2 K dX5_countingOf_36 ?_
          refine aw_icmp_ne (tgt := 42) K dX5_countingOf_37 (by decide) (fun b37 => ?_) (fun b37 => ?_)
          · refine aw_ii3 (v := _ + (-1)) K dX5_countingOf_42 rfl (by decide) rfl ?_
            refine aw_goto (tgt := 7) K dX5_countingOf_45 (by decide) ?_
            rw [if_neg (fun q => b37 q.2.2)] at k2
            rw [show nI n + -1 = nI n - 1 from (Int32.sub_eq_add_neg _ _).symm]
            exact ih (by omega) k2
          · refine aw_il3 K dX5_countingOf_40 ?_
            refine aw_iret K rfl dX5_countingOf_41 ?_
            rw [if_pos ⟨b17, b27, b37⟩] at k2
            subst k2
            exact ⟨rfl, rfl⟩
set_option maxHeartbeats 4000000 in
set_option maxRecDepth 100000 in
theorem eX5_countingOf (l : Launch) (g : Geo) (sta : Nat → Nat) (h : HS) (a b : Int32) {N T Wn : Nat} (H : XW h N T Wn) : CT (wX l g sta) 1 mX5_countingOf [.ref (g.2.1 3), .int a, .int b] h (DI (cgV h a b Wn) h) := by
  refine CT.at [some (.ref (g.2.1 3)), some (.int a), some (.int b), none] 1 rfl (by decide) (Nat.le_of_ble_eq_true rfl) (fun k K => ?_)
  refine aw_al0 K dX5_countingOf_0 ?_
  refine aw_getI K gX5_34 dX5_countingOf_1 rfl rfl ?_
  refine aw_iconst (v := 1) K dX5_countingOf_4 (by decide) ?_
  rw [H.2.2.1.1]
  refine aw_isub K dX5_countingOf_5 ?_
  refine aw_is3 K dX5_countingOf_6 (by decide) rfl ?_
  exact lpeX5_countingOf K h a b _ Wn H.2.2.1.2 rfl

set_option maxHeartbeats 4000000 in
set_option maxRecDepth 100000 in
theorem eX5_doesCount (l : Launch) (g : Geo) (sta : Nat → Nat) (h : HS) (j : Nat) (hj : j < 24) {N T Wn : Nat} (H : XW h N T Wn) : CT (wX l g sta) 2 mX5_doesCount [.ref (g.2.1 3), .int (nI j)] h (DI (bI (cgV h (h.1 26 j) (h.1 27 j) Wn = nI j)) h) := by
  refine CT.at [some (.ref (g.2.1 3)), some (.int (nI j))] 0 rfl (by decide) (Nat.le_of_ble_eq_true rfl) (fun k K => ?_)
  refine aw_al0 K dX5_doesCount_0 ?_
  refine aw_al0 K dX5_doesCount_1 ?_
  refine aw_getR K gX5_9 dX5_doesCount_2 rfl rfl ?_
  refine aw_il1 K dX5_doesCount_5 ?_
  refine aw_iald K dX5_doesCount_6 rfl (vp_in_nI (by omega) (by decide)) ?_
  rw [nI_clamp (show j < 2 ^ 31 by omega)]
  refine aw_al0 K dX5_doesCount_7 ?_
  refine aw_getR K gX5_15 dX5_doesCount_8 rfl rfl ?_
  refine aw_il1 K dX5_doesCount_11 ?_
  refine aw_iald K dX5_doesCount_12 rfl (vp_in_nI (by omega) (by decide)) ?_
  rw [nI_clamp (show j < 2 ^ 31 by omega)]
  refine aw_callV_I K (eX5_countingOf l g sta _ _ _ H) rfl (by decide) fX5_countingOf lX5_42 dX5_doesCount_13 rfl clsX5 rfl (Nat.le_of_ble_eq_true rfl) ?_
  refine aw_il1 K dX5_doesCount_16 ?_
  refine aw_icmp_ne (tgt := 24) K dX5_doesCount_17 (by decide) (fun b17 => ?_) (fun b17 => ?_)
  · refine aw_iconst (v := 0) K dX5_doesCount_24 (by decide) ?_
    refine aw_zret K rfl dX5_doesCount_25 (by first | rfl | exact bI_nar _) ?_
    exact ⟨congrArg some (congrArg Value.int (bI_f b17).symm), rfl⟩
  · refine aw_iconst (v := 1) K dX5_doesCount_20 (by decide) ?_
    refine aw_goto (tgt := 25) K dX5_doesCount_21 (by decide) ?_
    refine aw_zret K rfl dX5_doesCount_25 (by first | rfl | exact bI_nar _) ?_
    exact ⟨congrArg some (congrArg Value.int (bI_t b17).symm), rfl⟩

set_option maxHeartbeats 4000000 in
set_option maxRecDepth 100000 in
theorem lpeX5_countingOnes {l : Launch} {g : Geo} {sta : Nat → Nat} {k : KT} (K : AOK (wX l g sta) mX5_countingOnes k) (h : HS) {N T Wn : Nat} (H : XW h N T Wn) :
    ∀ (n i : Nat), i + n = Wn → AW (wX l g sta) (DI (sumU (fun j => bI (cgV h (h.1 26 j) (h.1 27 j) Wn = nI j)) Wn) h) 4 mX5_countingOnes k 4 [some (.ref (g.2.1 3)), some (.int (sumU (fun j => bI (cgV h (h.1 26 j) (h.1 27 j) Wn = nI j)) i)), some (.int (nI i))] [] h := by
  intro n
  have h3 := H.2.2.1.2
  induction n with
  | zero =>
    intro i k1
    obtain rfl : i = Wn := by omega
    refine aw_il2 K dX5_countingOnes_4 ?_
    refine aw_al0 K dX5_countingOnes_5 ?_
    refine aw_getI K gX5_34 dX5_countingOnes_6 rfl rfl ?_
    rw [H.2.2.1.1]
    refine aw_icmp_ge (tgt := 29) K dX5_countingOnes_9 (by decide) (fun b9 => ?_) (fun b9 => ?_)
    · refine aw_il1 K dX5_countingOnes_29 ?_
      refine aw_iret K rfl dX5_countingOnes_30 ?_
      exact ⟨rfl, rfl⟩
    · exact absurd (Int32.le_refl _) b9
  | succ n ih =>
    intro i k1
    refine aw_il2 K dX5_countingOnes_4 ?_
    refine aw_al0 K dX5_countingOnes_5 ?_
    refine aw_getI K gX5_34 dX5_countingOnes_6 rfl rfl ?_
    rw [H.2.2.1.1]
    refine aw_icmp_ge (tgt := 29) K dX5_countingOnes_9 (by decide) (fun b9 => ?_) (fun b9 => ?_)
    · exact absurd b9 (nI_ge (by omega) (by omega))
    · refine aw_il1 K dX5_countingOnes_12 ?_
      refine aw_al0 K dX5_countingOnes_13 ?_
      refine aw_il2 K dX5_countingOnes_14 ?_
      refine aw_callV_I K (eX5_doesCount l g sta _ i (by omega) H) rfl (by decide) fX5_doesCount lX5_46 dX5_countingOnes_15 rfl clsX5 rfl (Nat.le_of_ble_eq_true rfl) ?_
      refine aw_callSN_I K (tX6_oneIf l g sta _ _) rfl (by decide) fX6_oneIf lX5_49 dX5_countingOnes_18 rfl (Nat.le_of_ble_eq_true rfl) ?_
      rw [bIb]
      refine aw_iadd K dX5_countingOnes_21 ?_
      refine aw_is1 K dX5_countingOnes_22 (by decide) rfl ?_
      refine aw_ii2 (v := _ + 1) K dX5_countingOnes_23 rfl (by decide) rfl ?_
      refine aw_goto (tgt := 4) K dX5_countingOnes_26 (by decide) ?_
      rw [nI_1]
      exact ih (i + 1) (by omega)
set_option maxHeartbeats 4000000 in
set_option maxRecDepth 100000 in
theorem eX5_countingOnes (l : Launch) (g : Geo) (sta : Nat → Nat) (h : HS) {N T Wn : Nat} (H : XW h N T Wn) : CT (wX l g sta) 4 mX5_countingOnes [.ref (g.2.1 3)] h (DI (sumU (fun j => bI (cgV h (h.1 26 j) (h.1 27 j) Wn = nI j)) Wn) h) := by
  refine CT.at [some (.ref (g.2.1 3)), none, none] 2 rfl (by decide) (Nat.le_of_ble_eq_true rfl) (fun k K => ?_)
  refine aw_iconst (v := 0) K dX5_countingOnes_0 (by decide) ?_
  refine aw_is1 K dX5_countingOnes_1 (by decide) rfl ?_
  refine aw_iconst (v := 0) K dX5_countingOnes_2 (by decide) ?_
  refine aw_is2 K dX5_countingOnes_3 (by decide) rfl ?_
  exact lpeX5_countingOnes K h H Wn 0 (by omega)

def syX (h : HS) (b : Int32) (Wn n : Nat) : Int32 := orU (fun j => if h.1 27 j = b ∧ h.1 18 (h.1 26 j).toNatClampNeg = 0 ∧ cgV h (h.1 26 j) (h.1 27 j) Wn = nI j then (1 : Int32) <<< (h.1 26 j &&& 31) else 0) n
set_option maxHeartbeats 4000000 in
set_option maxRecDepth 100000 in
theorem lpeX6_sayersOf {l : Launch} {g : Geo} {sta : Nat → Nat} {k : KT} (K : AOK (wX l g sta) mX6_sayersOf k) (h : HS) (b : Int32) {N T Wn : Nat} (H : XW h N T Wn) :
    ∀ (n i : Nat), i + n = Wn → AW (wX l g sta) (DI (syX h b Wn Wn) h) 4 mX6_sayersOf k 4 [some (.ref (g.2.1 0)), some (.int b), some (.int (syX h b Wn i)), some (.int (nI i)), none] [] h := by
  intro n
  have h3 := H.2.2.1.2
  induction n with
  | zero =>
    intro i k1
    obtain rfl : i = Wn := by omega
    refine aw_il3 K dX6_sayersOf_4 ?_
    refine aw_al0 K dX6_sayersOf_5 ?_
    refine aw_getR K gX6_26 dX6_sayersOf_6 rfl rfl ?_
    refine aw_getI K gX6_255 dX6_sayersOf_9 rfl rfl ?_
    rw [H.2.2.1.1]
    refine aw_icmp_ge (tgt := 76) K dX6_sayersOf_12 (by decide) (fun b12 => ?_) (fun b12 => ?_)
    · refine aw_il2 K dX6_sayersOf_76 ?_
      refine aw_iret K rfl dX6_sayersOf_77 ?_
      exact ⟨rfl, rfl⟩
    · exact absurd (Int32.le_refl _) b12
  | succ n ih =>
    intro i k1
    refine aw_il3 K dX6_sayersOf_4 ?_
    refine aw_al0 K dX6_sayersOf_5 ?_
    refine aw_getR K gX6_26 dX6_sayersOf_6 rfl rfl ?_
    refine aw_getI K gX6_255 dX6_sayersOf_9 rfl rfl ?_
    rw [H.2.2.1.1]
    refine aw_icmp_ge (tgt := 76) K dX6_sayersOf_12 (by decide) (fun b12 => ?_) (fun b12 => ?_)
    · exact absurd b12 (nI_ge (by omega) (by omega))
    · refine aw_al0 K dX6_sayersOf_15 ?_
      refine aw_getR K gX6_26 dX6_sayersOf_16 rfl rfl ?_
      refine aw_getR K gX6_221 dX6_sayersOf_19 rfl rfl ?_
      refine aw_il3 K dX6_sayersOf_22 ?_
      refine aw_iald K dX6_sayersOf_23 rfl (vp_in_nI (by omega) (by decide)) ?_
      rw [nI_clamp (show i < 2 ^ 31 by omega)]
      refine aw_is4 K dX6_sayersOf_24 (by decide) rfl ?_
      refine aw_al0 K dX6_sayersOf_26 ?_
      refine aw_getR K gX6_26 dX6_sayersOf_27 rfl rfl ?_
      refine aw_getR K gX6_224 dX6_sayersOf_30 rfl rfl ?_
      refine aw_il3 K dX6_sayersOf_33 ?_
      refine aw_iald K dX6_sayersOf_34 rfl (vp_in_nI (by omega) (by decide)) ?_
      rw [nI_clamp (show i < 2 ^ 31 by omega)]
      refine aw_il1 K dX6_sayersOf_35 ?_
      refine aw_icmp_ne (tgt := 70) K dX6_sayersOf_36 (by decide) (fun b36 => ?_) (fun b36 => ?_)
      · refine aw_ii3 (v := _ + 1) K dX6_sayersOf_70 rfl (by decide) rfl ?_
        refine aw_goto (tgt := 4) K dX6_sayersOf_73 (by decide) ?_
        rw [nI_1]
        refine aw_sub [some (.ref (g.2.1 0)), some (.int _), some (.int _), some (.int _), none] ⟨rfl, rfl, rfl, rfl, trivial⟩ ?_
        have z := ih (i + 1) (by omega)
        rw [show syX h b Wn (i + 1) = syX h b Wn i from or_0 _ _ (if_neg (fun q => b36 q.1))] at z
        exact z
      · refine aw_al0 K dX6_sayersOf_39 ?_
        refine aw_getR K gX6_12 dX6_sayersOf_40 rfl rfl ?_
        refine aw_getR K gX6_96 dX6_sayersOf_43 rfl rfl ?_
        refine aw_il4 K dX6_sayersOf_46 ?_
        refine aw_zald K dX6_sayersOf_48 rfl (H.2.2.2.2.2.2.1 _) ?_
        refine aw_if_ne (tgt := 70) K dX6_sayersOf_49 (by decide) (fun b49 => ?_) (fun b49 => ?_)
        · refine aw_ii3 (v := _ + 1) K dX6_sayersOf_70 rfl (by decide) rfl ?_
          refine aw_goto (tgt := 4) K dX6_sayersOf_73 (by decide) ?_
          rw [nI_1]
          refine aw_sub [some (.ref (g.2.1 0)), some (.int _), some (.int _), some (.int _), none] ⟨rfl, rfl, rfl, rfl, trivial⟩ ?_
          have z := ih (i + 1) (by omega)
          rw [show syX h b Wn (i + 1) = syX h b Wn i from or_0 _ _ (if_neg (fun q => b49 q.2.1))] at z
          exact z
        · refine aw_al0 K dX6_sayersOf_52 ?_
          refine aw_getR K gX6_26 dX6_sayersOf_53 rfl rfl ?_
          refine aw_il3 K dX6_sayersOf_56 ?_
          refine aw_callV_I K (eX5_doesCount l g sta _ i (by omega) H) rfl (by decide) fX5_doesCount lX6_234 dX6_sayersOf_57 rfl clsX5 rfl (Nat.le_of_ble_eq_true rfl) ?_
          refine aw_if_eq (tgt := 70) K dX6_sayersOf_60 (by decide) (fun b60 => ?_) (fun b60 => ?_)
          · refine aw_ii3 (v := _ + 1) K dX6_sayersOf_70 rfl (by decide) rfl ?_
            refine aw_goto (tgt := 4) K dX6_sayersOf_73 (by decide) ?_
            rw [nI_1]
            refine aw_sub [some (.ref (g.2.1 0)), some (.int _), some (.int _), some (.int _), none] ⟨rfl, rfl, rfl, rfl, trivial⟩ ?_
            have z := ih (i + 1) (by omega)
            rw [show syX h b Wn (i + 1) = syX h b Wn i from or_0 _ _ (if_neg (fun q => bI_0.mp b60 q.2.2))] at z
            exact z
          · refine aw_il2 K dX6_sayersOf_63 ?_
            refine aw_iconst (v := 1) K dX6_sayersOf_64 (by decide) ?_
            refine aw_il4 K dX6_sayersOf_65 ?_
            refine aw_ishl K dX6_sayersOf_67 ?_
            refine aw_ior K dX6_sayersOf_68 ?_
            refine aw_is2 K dX6_sayersOf_69 (by decide) rfl ?_
            refine aw_ii3 (v := _ + 1) K dX6_sayersOf_70 rfl (by decide) rfl ?_
            refine aw_goto (tgt := 4) K dX6_sayersOf_73 (by decide) ?_
            rw [nI_1]
            refine aw_sub [some (.ref (g.2.1 0)), some (.int _), some (.int _), some (.int _), none] ⟨rfl, rfl, rfl, rfl, trivial⟩ ?_
            have z := ih (i + 1) (by omega)
            rw [show syX h b Wn (i + 1) = syX h b Wn i ||| (1 : Int32) <<< (h.1 26 i &&& 31) from congrArg (syX h b Wn i ||| ·) (if_pos ⟨b36, b49, bI_1.mp b60⟩)] at z
            exact z
set_option maxHeartbeats 4000000 in
set_option maxRecDepth 100000 in
theorem eX6_sayersOf (l : Launch) (g : Geo) (sta : Nat → Nat) (h : HS) (b : Int32) {N T Wn : Nat} (H : XW h N T Wn) : CT (wX l g sta) 4 mX6_sayersOf [.ref (g.2.1 0), .int b] h (DI (syX h b Wn Wn) h) := by
  refine CT.at [some (.ref (g.2.1 0)), some (.int b), none, none, none] 3 rfl (by decide) (Nat.le_of_ble_eq_true rfl) (fun k K => ?_)
  refine aw_iconst (v := 0) K dX6_sayersOf_0 (by decide) ?_
  refine aw_is2 K dX6_sayersOf_1 (by decide) rfl ?_
  refine aw_iconst (v := 0) K dX6_sayersOf_2 (by decide) ?_
  refine aw_is3 K dX6_sayersOf_3 (by decide) rfl ?_
  exact lpeX6_sayersOf K h b H Wn 0 (by omega)

set_option maxHeartbeats 4000000 in
set_option maxRecDepth 100000 in
theorem eX6_sayers (l : Launch) (g : Geo) (sta : Nat → Nat) (h : HS) (b : Int32) {N T Wn : Nat} (H : XW h N T Wn) : CT (wX l g sta) 7 mX6_sayers [.ref (g.2.1 0), .int b] h (DI (if 0 ≤ b ∧ b ≤ h.1 1 5 - 1 then syX h b Wn Wn else -1) h) := by
  refine CT.at [some (.ref (g.2.1 0)), some (.int b)] 0 rfl (by decide) (Nat.le_of_ble_eq_true rfl) (fun k K => ?_)
  refine aw_al0 K dX6_sayers_0 ?_
  refine aw_il1 K dX6_sayers_1 ?_
  refine aw_callV_I K (tX6_isName l g sta _ _) rfl (by decide) fX6_isName lX6_84 dX6_sayers_2 rfl clsX6 rfl (Nat.le_of_ble_eq_true rfl) ?_
  refine aw_if_eq (tgt := 16) K dX6_sayers_5 (by decide) (fun b5 => ?_) (fun b5 => ?_)
  · refine aw_iconst (v := (-1)) K dX6_sayers_16 (by decide) ?_
    refine aw_iret K rfl dX6_sayers_17 ?_
    exact ⟨congrArg some (congrArg Value.int (if_neg (bI_0.mp b5)).symm), rfl⟩
  · refine aw_al0 K dX6_sayers_8 ?_
    refine aw_il1 K dX6_sayers_9 ?_
    refine aw_callV_I K (eX6_sayersOf l g sta _ _ H) rfl (by decide) fX6_sayersOf lX6_237 dX6_sayers_10 rfl clsX6 rfl (Nat.le_of_ble_eq_true rfl) ?_
    refine aw_goto (tgt := 17) K dX6_sayers_13 (by decide) ?_
    refine aw_iret K rfl dX6_sayers_17 ?_
    exact ⟨congrArg some (congrArg Value.int (if_pos (bI_1.mp b5)).symm), rfl⟩

theorem cg_s {h : HS} {a b : Int32} {w : Nat} : ∀ n, n ≤ 24 → (cgV h a b n = nI w ∧ w < 24 ↔ w < n ∧ (¬ h.1 32 w = 0 ∧ h.1 26 w = a ∧ h.1 27 w = b) ∧ ∀ u, w < u → u < n → ¬ (¬ h.1 32 u = 0 ∧ h.1 26 u = a ∧ h.1 27 u = b))
  | 0, _ => ⟨fun q => by
      have u : ∀ x : Fin 24, ¬ (-4 : Int32) = nI x.1 := by decide
      exact absurd q.1 (u ⟨w, q.2⟩), fun q => absurd q.1 (Nat.not_lt_zero _)⟩
  | n + 1, hn => by
    unfold cgV
    by_cases z : ¬ h.1 32 n = 0 ∧ h.1 26 n = a ∧ h.1 27 n = b
    · rw [if_pos z]
      constructor
      · rintro ⟨q, q2⟩
        have e : n = w := (nI_eq (by omega) (by omega)).mp q
        subst e
        exact ⟨by omega, z, fun u h1 h2 => by omega⟩
      · rintro ⟨q1, q2, q3⟩
        have e : w = n := by
          rcases Nat.lt_or_ge w n with y | y
          · exact absurd z (q3 n y (by omega))
          · omega
        subst e
        exact ⟨rfl, by omega⟩
    · rw [if_neg z, cg_s n (by omega)]
      constructor
      · rintro ⟨q1, q2, q3⟩
        refine ⟨by omega, q2, fun u h1 h2 => ?_⟩
        rcases Nat.lt_or_ge u n with y | y
        · exact q3 u h1 y
        · obtain rfl : u = n := by omega
          exact z
      · rintro ⟨q1, q2, q3⟩
        refine ⟨?_, q2, fun u h1 h2 => q3 u h1 (by omega)⟩
        rcases Nat.lt_or_ge w n with y | y
        · exact y
        · obtain rfl : w = n := by omega
          exact absurd q2 z
theorem cg_n {h : HS} {a b : Int32} : ∀ n, cgV h a b n = -4 ∨ ∃ w, w < n ∧ cgV h a b n = nI w
  | 0 => Or.inl rfl
  | n + 1 => by
    unfold cgV
    split
    · exact Or.inr ⟨n, by omega, rfl⟩
    · rcases cg_n (h := h) (a := a) (b := b) n with q | ⟨w, h1, h2⟩
      · exact Or.inl q
      · exact Or.inr ⟨w, by omega, h2⟩
theorem cg_no {h : HS} {a b : Int32} : ∀ n, n ≤ 24 → cgV h a b n = -4 → ∀ u, u < n → ¬ (¬ h.1 32 u = 0 ∧ h.1 26 u = a ∧ h.1 27 u = b)
  | 0, _, _, u, hu => absurd hu (Nat.not_lt_zero _)
  | n + 1, hn, e, u, hu => by
    unfold cgV at e
    by_cases z : ¬ h.1 32 n = 0 ∧ h.1 26 n = a ∧ h.1 27 n = b
    · rw [if_pos z] at e
      have y : ∀ x : Fin 24, ¬ nI x.1 = (-4 : Int32) := by decide
      exact absurd e (y ⟨n, by omega⟩)
    · rw [if_neg z] at e
      rcases Nat.lt_or_ge u n with y | y
      · exact cg_no n (by omega) e u y
      · obtain rfl : u = n := by omega
        exact z
theorem cs_s {v : Nat → Nat → Int32} {w : Nat} : ∀ n u, csV v w n u = 1 ↔ ∀ x, u ≤ x → x < u + n → ¬ (v 18 x = v 18 w ∧ v 19 x = v 19 w ∧ ¬ isF v x = 0)
  | 0, u => ⟨fun _ x h1 h2 => by omega, fun _ => rfl⟩
  | n + 1, u => by
    unfold csV
    by_cases z : v 18 u = v 18 w ∧ v 19 u = v 19 w ∧ ¬ isF v u = 0
    · rw [if_pos z]
      exact ⟨fun q => absurd q (by decide), fun q => absurd z (q u (Nat.le_refl _) (by omega))⟩
    · rw [if_neg z, cs_s n (u + 1)]
      constructor
      · intro q x h1 h2
        by_cases y : x = u
        · subst y
          exact z
        · exact q x (by omega) (by omega)
      · intro q x h1 h2
        exact q x (by omega) (by omega)
theorem ct_s {v : Nat → Nat → Int32} {Wn w : Nat} (hw : w < Wn) : ¬ ctV v Wn w = 0 ↔ ¬ isF v w = 0 ∧ ∀ u, w < u → u < Wn → ¬ (v 18 u = v 18 w ∧ v 19 u = v 19 w ∧ ¬ isF v u = 0) := by
  unfold ctV
  by_cases z : isF v w = 0
  · rw [if_pos z]
    exact ⟨fun q => absurd rfl q, fun q => absurd z q.1⟩
  · rw [if_neg z]
    have e : ¬ csV v w (Wn - (w + 1)) (w + 1) = 0 ↔ csV v w (Wn - (w + 1)) (w + 1) = 1 := by
      rcases csV_01 v w (Wn - (w + 1)) (w + 1) with y | y
      · rw [y]
        decide
      · rw [y]
        decide
    rw [e, cs_s]
    constructor
    · intro q
      exact ⟨z, fun u h1 h2 => q u (by omega) (by omega)⟩
    · rintro ⟨-, q⟩ x h1 h2
      exact q x (by omega) (by omega)
/-- the class's note is the picture's -/
theorem fd_F {h : HS} {N Wn w : Nat} (ww : wrdW h N Wn) (hw : w < Wn) : isF (vX h) w = h.1 32 w := (ww w hw).2.2.1.symm
theorem dc_ct {h : HS} {N Wn j : Nat} (ww : wrdW h N Wn) (hW : Wn ≤ 24) (hj : j < Wn) : bI (cgV h (h.1 26 j) (h.1 27 j) Wn = nI j) = ctV (vX h) Wn j := by
  have e : cgV h (h.1 26 j) (h.1 27 j) Wn = nI j ↔ ¬ ctV (vX h) Wn j = 0 := by
    rw [ct_s hj, fd_F ww hj]
    have c := cg_s (h := h) (a := h.1 26 j) (b := h.1 27 j) (w := j) Wn hW
    constructor
    · intro q
      obtain ⟨-, q2, q3⟩ := c.mp ⟨q, by omega⟩
      refine ⟨q2.1, fun u h1 h2 h4 => q3 u h1 h2 ⟨?_, h4.1, h4.2.1⟩⟩
      rw [← fd_F ww h2]
      exact h4.2.2
    · rintro ⟨q1, q2⟩
      refine (c.mpr ⟨hj, ⟨q1, rfl, rfl⟩, fun u h1 h2 h4 => q2 u h1 h2 ⟨h4.2.1, h4.2.2, ?_⟩⟩).1
      rw [fd_F ww h2]
      exact h4.1
  rcases ctV_01 (vX h) Wn j with y | y
  · rw [y] at e ⊢
    exact bI_t (e.mpr (by decide))
  · rw [y] at e ⊢
    exact bI_f (fun z => e.mp z rfl)
theorem wb_u {v : Nat → Nat → Int32} {Wn w : Nat} {a b : Int32} : ∀ n, w < n → (∀ u, u < n → ((v 18 u = a ∧ v 19 u = b ∧ ¬ ctV v Wn u = 0) ↔ u = w)) → wbV v Wn a b n = nI w
  | 0, h, _ => absurd h (Nat.not_lt_zero _)
  | n + 1, h, q => by
    unfold wbV
    by_cases y : n = w
    · subst y
      rw [if_pos ((q n (by omega)).mpr rfl)]
    · rw [if_neg (fun z => y ((q n (by omega)).mp z))]
      exact wb_u n (by omega) (fun u hu => q u (by omega))
theorem wb_0 {v : Nat → Nat → Int32} {Wn : Nat} {a b : Int32} : ∀ n, (∀ u, u < n → ¬ (v 18 u = a ∧ v 19 u = b ∧ ¬ ctV v Wn u = 0)) → wbV v Wn a b n = -4
  | 0, _ => rfl
  | n + 1, q => by
    unfold wbV
    rw [if_neg (q n (by omega))]
    exact wb_0 n (fun u hu => q u (by omega))
theorem cg_wb {h : HS} {N Wn : Nat} {a b : Int32} (ww : wrdW h N Wn) (hW : Wn ≤ 24) : wbV (vX h) Wn a b Wn = cgV h a b Wn := by
  rcases cg_n (h := h) (a := a) (b := b) Wn with q | ⟨w, h1, h2⟩
  · rw [q]
    refine wb_0 Wn (fun u hu z => cg_no Wn hW q u hu ⟨?_, z.1, z.2.1⟩)
    rw [← fd_F ww hu]
    exact ((ct_s hu).mp z.2.2).1
  · rw [h2]
    obtain ⟨-, q2, q3⟩ := (cg_s Wn hW).mp ⟨h2, by omega⟩
    refine wb_u Wn h1 (fun u hu => ?_)
    constructor
    · rintro ⟨z1, z2, z3⟩
      obtain ⟨y1, y2⟩ := (ct_s hu).mp z3
      rw [fd_F ww hu] at y1
      rcases Nat.lt_trichotomy u w with x | x | x
      · refine absurd ?_ (y2 w x h1)
        refine ⟨q2.2.1.trans z1.symm, q2.2.2.trans z2.symm, ?_⟩
        rw [fd_F ww h1]
        exact q2.1
      · exact x
      · exact absurd ⟨y1, z1, z2⟩ (q3 u x hu)
    · rintro rfl
      refine ⟨q2.2.1, q2.2.2, (ct_s hu).mpr ⟨by rw [fd_F ww hu]; exact q2.1, fun x h3 h4 h5 => q3 x h3 h4 ⟨?_, h5.1.trans q2.2.1, h5.2.1.trans q2.2.2⟩⟩⟩
      rw [← fd_F ww h4]
      exact h5.2.2
/-! and so for the reference -/
theorem isF_eq {hx hm : HS} (r : REL hx hm) (w : Nat) : isF hm.1 w = isF (vX hx) w := by
  unfold isF
  rw [r.r (28, 20) (by decide)]
  rfl
theorem cs_eq {hx hm : HS} (r : REL hx hm) (w : Nat) : ∀ n u, csV hm.1 w n u = csV (vX hx) w n u
  | 0, _ => rfl
  | n + 1, u => by
    unfold csV
    rw [cs_eq r w n (u + 1), isF_eq r, r.r (26, 18) (by decide), r.r (27, 19) (by decide)]
    rfl
theorem ct_eq {hx hm : HS} (r : REL hx hm) (Wn w : Nat) : ctV hm.1 Wn w = ctV (vX hx) Wn w := by
  unfold ctV
  rw [isF_eq r, cs_eq r]
theorem wb_eq {hx hm : HS} (r : REL hx hm) (Wn : Nat) (a b : Int32) : ∀ n, wbV hm.1 Wn a b n = wbV (vX hx) Wn a b n
  | 0 => rfl
  | n + 1 => by
    unfold wbV
    rw [wb_eq r Wn a b n, ct_eq r, r.r (26, 18) (by decide), r.r (27, 19) (by decide)]
    rfl
theorem sy_eq {hx hm : HS} {N T Wn : Nat} (r : REL hx hm) (H : XW hx N T Wn) (ww : wrdW hx N Wn) (b : Int32) : syX hx b Wn Wn = syV hm.1 N Wn b := by
  have hN := H.1.2
  have hW := H.2.2.1.2
  refine b_ext (fun i hi => ?_)
  have e : bt (syX hx b Wn Wn) i = true ↔ bt (syV hm.1 N Wn b) i = true := by
    rw [syV_b hN hi, wb_eq r, cg_wb ww hW, r.r (18, 3) (by decide)]
    unfold syX
    rw [orU_b hi]
    constructor
    · rintro ⟨j, h1, h2⟩
      split at h2
      · rename_i q
        obtain ⟨a, ha, ea⟩ := vp_in_of (ww j h1).1 (by omega)
        rw [ea, b_sh1 (by omega) hi] at h2
        have e : i = a := of_decide_eq_true h2
        subst e
        rw [ea, nI_clamp (by omega)] at q
        rw [← q.1, q.2.2]
        refine ⟨ha, q.2.1, ?_⟩
        have y : ∀ x : Fin 24, ¬ nI x.1 = (-4 : Int32) := by decide
        exact y ⟨j, by omega⟩
      · rw [b_0] at h2
        exact absurd h2 (by decide)
    · rintro ⟨h1, h2, h3⟩
      rcases cg_n (h := hx) (a := nI i) (b := b) Wn with q | ⟨w, q1, q2⟩
      · exact absurd q h3
      · obtain ⟨-, z2, -⟩ := (cg_s Wn hW).mp ⟨q2, by omega⟩
        refine ⟨w, q1, ?_⟩
        rw [z2.2.1, z2.2.2, nI_clamp (by omega), if_pos ⟨rfl, h2, q2⟩, b_sh1 hi hi]
        simp
  cases y : bt (syX hx b Wn Wn) i <;> cases z : bt (syV hm.1 N Wn b) i
  · rfl
  · rw [y, z] at e
    exact absurd (e.mpr rfl) (by decide)
  · rw [y, z] at e
    exact absurd (e.mp rfl) (by decide)
  · rfl
set_option maxHeartbeats 4000000 in
set_option maxRecDepth 100000 in
theorem eX6_wordOf (l : Launch) (g : Geo) (sta : Nat → Nat) (h : HS) (a0 b : Int32) {N T Wn : Nat} (H : XW h N T Wn) (ww : wrdW h N Wn) : CT (wX l g sta) 7 mX6_wordOf [.ref (g.2.1 0), .int a0, .int b] h (DI (wofV (vX h) a0 b Wn) h) := by
  refine CT.at [some (.ref (g.2.1 0)), some (.int a0), some (.int b)] 0 rfl (by decide) (Nat.le_of_ble_eq_true rfl) (fun k K => ?_)
  refine aw_al0 K dX6_wordOf_0 ?_
  refine aw_il1 K dX6_wordOf_1 ?_
  refine aw_callV_I K (tX6_isWord l g sta _ _) rfl (by decide) fX6_isWord lX6_218 dX6_wordOf_2 rfl clsX6 rfl (Nat.le_of_ble_eq_true rfl) ?_
  refine aw_if_ne (tgt := 10) K dX6_wordOf_5 (by decide) (fun b5 => ?_) (fun b5 => ?_)
  · have hW := H.2.2.1.2
    have hok := bI_1.mp b5
    obtain ⟨a, ha2, rfl⟩ := inNj H.2.2.1.1 (by omega) (bI_1.mp b5)
    have ha : vp_in (nI a) 24 := vp_in_nI (by omega) (by decide)
    refine aw_il2 K dX6_wordOf_10 ?_
    refine aw_tsw (tgt := 110) K dX6_wordOf_11 (by decide) (by decide) (by decide) ⟨fun s0 => ?_, fun s1 => ?_, fun s2 => ?_, fun s3 => ?_, fun s4 => ?_, fun s5 => ?_, trivial⟩ (fun sd => ?_)
    · show AW _ _ _ _ _ 48 _ _ _
      refine aw_al0 K dX6_wordOf_48 ?_
      refine aw_getR K gX6_26 dX6_wordOf_49 rfl rfl ?_
      refine aw_getR K gX6_221 dX6_wordOf_52 rfl rfl ?_
      refine aw_il1 K dX6_wordOf_55 ?_
      refine aw_iald K dX6_wordOf_56 rfl ha ?_
      refine aw_iret K rfl dX6_wordOf_57 ?_
      obtain rfl := tI (k := 0) (by decide) s0
      refine ⟨?_, rfl⟩
      rw [wofV, if_pos ⟨hok, by decide⟩, if_pos (by decide)] <;> rfl
    · show AW _ _ _ _ _ 58 _ _ _
      refine aw_al0 K dX6_wordOf_58 ?_
      refine aw_getR K gX6_26 dX6_wordOf_59 rfl rfl ?_
      refine aw_getR K gX6_224 dX6_wordOf_62 rfl rfl ?_
      refine aw_il1 K dX6_wordOf_65 ?_
      refine aw_iald K dX6_wordOf_66 rfl ha ?_
      refine aw_iret K rfl dX6_wordOf_67 ?_
      obtain rfl := tI (k := 1) (by decide) s1
      refine ⟨?_, rfl⟩
      rw [wofV, if_pos ⟨hok, by decide⟩, if_neg (by decide), if_pos (by decide)] <;> rfl
    · show AW _ _ _ _ _ 68 _ _ _
      refine aw_al0 K dX6_wordOf_68 ?_
      refine aw_getR K gX6_26 dX6_wordOf_69 rfl rfl ?_
      refine aw_getR K gX6_227 dX6_wordOf_72 rfl rfl ?_
      refine aw_il1 K dX6_wordOf_75 ?_
      refine aw_iald K dX6_wordOf_76 rfl ha ?_
      refine aw_iret K rfl dX6_wordOf_77 ?_
      obtain rfl := tI (k := 2) (by decide) s2
      refine ⟨?_, rfl⟩
      rw [wofV, if_pos ⟨hok, by decide⟩, if_neg (by decide), if_neg (by decide), if_pos (by decide)] <;> rfl
    · show AW _ _ _ _ _ 78 _ _ _
      refine aw_al0 K dX6_wordOf_78 ?_
      refine aw_getR K gX6_26 dX6_wordOf_79 rfl rfl ?_
      refine aw_getR K gX6_230 dX6_wordOf_82 rfl rfl ?_
      refine aw_il1 K dX6_wordOf_85 ?_
      refine aw_iald K dX6_wordOf_86 rfl ha ?_
      refine aw_iret K rfl dX6_wordOf_87 ?_
      obtain rfl := tI (k := 3) (by decide) s3
      refine ⟨?_, rfl⟩
      rw [wofV, if_pos ⟨hok, by decide⟩, if_neg (by decide), if_neg (by decide), if_neg (by decide), if_pos (by decide)] <;> rfl
    · show AW _ _ _ _ _ 88 _ _ _
      refine aw_al0 K dX6_wordOf_88 ?_
      refine aw_getR K gX6_26 dX6_wordOf_89 rfl rfl ?_
      refine aw_getR K gX6_233 dX6_wordOf_92 rfl rfl ?_
      refine aw_il1 K dX6_wordOf_95 ?_
      refine aw_iald K dX6_wordOf_96 rfl ha ?_
      refine aw_iret K rfl dX6_wordOf_97 ?_
      obtain rfl := tI (k := 4) (by decide) s4
      refine ⟨?_, rfl⟩
      rw [wofV, if_pos ⟨hok, by decide⟩, if_neg (by decide), if_neg (by decide), if_neg (by decide), if_neg (by decide), if_pos (by decide)] <;> rfl
    · show AW _ _ _ _ _ 98 _ _ _
      refine aw_al0 K dX6_wordOf_98 ?_
      refine aw_getR K gX6_26 dX6_wordOf_99 rfl rfl ?_
      refine aw_il1 K dX6_wordOf_102 ?_
      refine aw_callV_I K (eX5_doesCount l g sta _ a (by omega) H) rfl (by decide) fX5_doesCount lX6_234 dX6_wordOf_103 rfl clsX5 rfl (Nat.le_of_ble_eq_true rfl) ?_
      refine aw_callS_I K (tX6_oneIf l g sta _ _) rfl (by decide) fX6_oneIf lX6_92 dX6_wordOf_106 rfl (Nat.le_of_ble_eq_true rfl) ?_
      refine aw_iret K rfl dX6_wordOf_109 ?_
      obtain rfl := tI (k := 5) (by decide) s5
      refine ⟨?_, rfl⟩
      rw [bIb, dc_ct ww hW ha2, wofV, if_pos ⟨hok, by decide⟩, if_neg (by decide), if_neg (by decide), if_neg (by decide), if_neg (by decide), if_neg (by decide), nI_clamp (show a < 2 ^ 31 by omega)]
    · show AW _ _ _ _ _ 110 _ _ _
      refine aw_iconst (v := (-1)) K dX6_wordOf_110 (by decide) ?_
      refine aw_iret K rfl dX6_wordOf_111 ?_
      refine ⟨?_, rfl⟩
      rw [wofV, if_neg (fun q => by have := (inK (k := 5) (by decide)).mp q.2; omega)]
  · refine aw_iconst (v := (-1)) K dX6_wordOf_8 (by decide) ?_
    refine aw_iret K rfl dX6_wordOf_9 ?_
    refine ⟨?_, rfl⟩
    rw [wofV, if_neg (fun q => bI_0.mp b5 q.1)]

theorem wof_eq {hx hm : HS} (r : REL hx hm) (a b : Int32) (Wn : Nat) : wofV (vX hx) a b Wn = wofV hm.1 a b Wn := by
  unfold wofV
  rw [ct_eq r, INV.b3 r, r.r (26, 18) (by decide), r.r (27, 19) (by decide), r.r (28, 20) (by decide), r.r (29, 21) (by decide), r.r (30, 22) (by decide)]
  rfl
def cnX (h : HS) (a : Int32) (N T Wn : Nat) : Int32 := if a.toInt = 0 then h.1 1 5 else if a.toInt = 1 then sumU (fun x => bI (¬ h.1 17 x = 0)) N else if a.toInt = 2 then sumU (fun x => bI (¬ h.1 18 x = 0)) N else if a.toInt = 3 then sumU (fun x => bI (vX h 0 12 < vX h 4 x)) N else if a.toInt = 4 then h.1 2 5 else if a.toInt = 5 then opV h 4095 T else if a.toInt = 6 then h.1 3 7 else if a.toInt = 7 then sumU (fun j => bI (cgV h (h.1 26 j) (h.1 27 j) Wn = nI j)) Wn else if a.toInt = 8 then h.1 0 11 else if a.toInt = 9 then h.1 4 1 else if a.toInt = 10 then (if h.1 7 2 = -1 then -4 else h.1 7 2) else -1
set_option maxHeartbeats 4000000 in
set_option maxRecDepth 100000 in
theorem eX6_count (l : Launch) (g : Geo) (sta : Nat → Nat) (h : HS) (a : Int32) {N T Wn : Nat} (H : XW h N T Wn) : CT (wX l g sta) 7 mX6_count [.ref (g.2.1 0), .int a] h (DI (cnX h a N T Wn) h) := by
  refine CT.at [some (.ref (g.2.1 0)), some (.int a)] 0 rfl (by decide) (Nat.le_of_ble_eq_true rfl) (fun k K => ?_)
  refine aw_il1 K dX6_count_0 ?_
  refine aw_tsw (tgt := 169) K dX6_count_1 (by decide) (by decide) (by decide) ⟨fun s0 => ?_, fun s1 => ?_, fun s2 => ?_, fun s3 => ?_, fun s4 => ?_, fun s5 => ?_, fun s6 => ?_, fun s7 => ?_, fun s8 => ?_, fun s9 => ?_, fun s10 => ?_, trivial⟩ (fun sd => ?_)
  · show AW _ _ _ _ _ 60 _ _ _
    refine aw_al0 K dX6_count_60 ?_
    refine aw_getR K gX6_12 dX6_count_61 rfl rfl ?_
    refine aw_getI K gX6_161 dX6_count_64 rfl rfl ?_
    refine aw_iret K rfl dX6_count_67 ?_
    refine ⟨?_, rfl⟩
    rw [cnX, if_pos (show a.toInt = 0 from s0)]
  · show AW _ _ _ _ _ 68 _ _ _
    refine aw_al0 K dX6_count_68 ?_
    refine aw_al0 K dX6_count_69 ?_
    refine aw_getR K gX6_12 dX6_count_70 rfl rfl ?_
    refine aw_getR K gX6_88 dX6_count_73 rfl rfl ?_
    refine aw_callV_I K (tX6_countTrue l g sta _ 17 rfl H) rfl (by decide) fX6_countTrue lX6_312 dX6_count_76 rfl clsX6 rfl (Nat.le_of_ble_eq_true rfl) ?_
    refine aw_iret K rfl dX6_count_79 ?_
    refine ⟨?_, rfl⟩
    rw [cnX, if_neg (show ¬ a.toInt = 0 by omega), if_pos (show a.toInt = 1 from s1)]
  · show AW _ _ _ _ _ 80 _ _ _
    refine aw_al0 K dX6_count_80 ?_
    refine aw_al0 K dX6_count_81 ?_
    refine aw_getR K gX6_12 dX6_count_82 rfl rfl ?_
    refine aw_getR K gX6_96 dX6_count_85 rfl rfl ?_
    refine aw_callV_I K (tX6_countTrue l g sta _ 18 rfl H) rfl (by decide) fX6_countTrue lX6_312 dX6_count_88 rfl clsX6 rfl (Nat.le_of_ble_eq_true rfl) ?_
    refine aw_iret K rfl dX6_count_91 ?_
    refine ⟨?_, rfl⟩
    rw [cnX, if_neg (show ¬ a.toInt = 0 by omega), if_neg (show ¬ a.toInt = 1 by omega), if_pos (show a.toInt = 2 from s2)]
  · show AW _ _ _ _ _ 92 _ _ _
    refine aw_al0 K dX6_count_92 ?_
    refine aw_callV_I K (tX6_countFined l g sta _ H) rfl (by decide) fX6_countFined lX6_316 dX6_count_93 rfl clsX6 rfl (Nat.le_of_ble_eq_true rfl) ?_
    refine aw_iret K rfl dX6_count_96 ?_
    refine ⟨?_, rfl⟩
    rw [cnX, if_neg (show ¬ a.toInt = 0 by omega), if_neg (show ¬ a.toInt = 1 by omega), if_neg (show ¬ a.toInt = 2 by omega), if_pos (show a.toInt = 3 from s3)]
  · show AW _ _ _ _ _ 97 _ _ _
    refine aw_al0 K dX6_count_97 ?_
    refine aw_getR K gX6_19 dX6_count_98 rfl rfl ?_
    refine aw_getI K gX6_109 dX6_count_101 rfl rfl ?_
    refine aw_iret K rfl dX6_count_104 ?_
    refine ⟨?_, rfl⟩
    rw [cnX, if_neg (show ¬ a.toInt = 0 by omega), if_neg (show ¬ a.toInt = 1 by omega), if_neg (show ¬ a.toInt = 2 by omega), if_neg (show ¬ a.toInt = 3 by omega), if_pos (show a.toInt = 4 from s4)]
  · show AW _ _ _ _ _ 105 _ _ _
    refine aw_al0 K dX6_count_105 ?_
    refine aw_sipush (v := 4095) K dX6_count_106 (by decide) ?_
    refine aw_callV_I K (eX6_openTies l g sta _ _ H) rfl (by decide) fX6_openTies lX6_155 dX6_count_109 rfl clsX6 rfl (Nat.le_of_ble_eq_true rfl) ?_
    refine aw_iret K rfl dX6_count_112 ?_
    refine ⟨?_, rfl⟩
    rw [cnX, if_neg (show ¬ a.toInt = 0 by omega), if_neg (show ¬ a.toInt = 1 by omega), if_neg (show ¬ a.toInt = 2 by omega), if_neg (show ¬ a.toInt = 3 by omega), if_neg (show ¬ a.toInt = 4 by omega), if_pos (show a.toInt = 5 from s5)]
  · show AW _ _ _ _ _ 113 _ _ _
    refine aw_al0 K dX6_count_113 ?_
    refine aw_getR K gX6_26 dX6_count_114 rfl rfl ?_
    refine aw_getI K gX6_255 dX6_count_117 rfl rfl ?_
    refine aw_iret K rfl dX6_count_120 ?_
    refine ⟨?_, rfl⟩
    rw [cnX, if_neg (show ¬ a.toInt = 0 by omega), if_neg (show ¬ a.toInt = 1 by omega), if_neg (show ¬ a.toInt = 2 by omega), if_neg (show ¬ a.toInt = 3 by omega), if_neg (show ¬ a.toInt = 4 by omega), if_neg (show ¬ a.toInt = 5 by omega), if_pos (show a.toInt = 6 from s6)]
  · show AW _ _ _ _ _ 121 _ _ _
    refine aw_al0 K dX6_count_121 ?_
    refine aw_getR K gX6_26 dX6_count_122 rfl rfl ?_
    refine aw_callV_I K (eX5_countingOnes l g sta _ H) rfl (by decide) fX5_countingOnes lX6_319 dX6_count_125 rfl clsX5 rfl (Nat.le_of_ble_eq_true rfl) ?_
    refine aw_iret K rfl dX6_count_128 ?_
    refine ⟨?_, rfl⟩
    rw [cnX, if_neg (show ¬ a.toInt = 0 by omega), if_neg (show ¬ a.toInt = 1 by omega), if_neg (show ¬ a.toInt = 2 by omega), if_neg (show ¬ a.toInt = 3 by omega), if_neg (show ¬ a.toInt = 4 by omega), if_neg (show ¬ a.toInt = 5 by omega), if_neg (show ¬ a.toInt = 6 by omega), if_pos (show a.toInt = 7 from s7)]
  · show AW _ _ _ _ _ 129 _ _ _
    refine aw_al0 K dX6_count_129 ?_
    refine aw_getI K gX6_113 dX6_count_130 rfl rfl ?_
    refine aw_iret K rfl dX6_count_133 ?_
    refine ⟨?_, rfl⟩
    rw [cnX, if_neg (show ¬ a.toInt = 0 by omega), if_neg (show ¬ a.toInt = 1 by omega), if_neg (show ¬ a.toInt = 2 by omega), if_neg (show ¬ a.toInt = 3 by omega), if_neg (show ¬ a.toInt = 4 by omega), if_neg (show ¬ a.toInt = 5 by omega), if_neg (show ¬ a.toInt = 6 by omega), if_neg (show ¬ a.toInt = 7 by omega), if_pos (show a.toInt = 8 from s8)]
  · show AW _ _ _ _ _ 134 _ _ _
    refine aw_al0 K dX6_count_134 ?_
    refine aw_getR K gX6_33 dX6_count_135 rfl rfl ?_
    refine aw_getI K gX6_180 dX6_count_138 rfl rfl ?_
    refine aw_iret K rfl dX6_count_141 ?_
    refine ⟨?_, rfl⟩
    rw [cnX, if_neg (show ¬ a.toInt = 0 by omega), if_neg (show ¬ a.toInt = 1 by omega), if_neg (show ¬ a.toInt = 2 by omega), if_neg (show ¬ a.toInt = 3 by omega), if_neg (show ¬ a.toInt = 4 by omega), if_neg (show ¬ a.toInt = 5 by omega), if_neg (show ¬ a.toInt = 6 by omega), if_neg (show ¬ a.toInt = 7 by omega), if_neg (show ¬ a.toInt = 8 by omega), if_pos (show a.toInt = 9 from s9)]
  · show AW _ _ _ _ _ 142 _ _ _
    refine aw_al0 K dX6_count_142 ?_
    refine aw_getR K gX6_46 dX6_count_143 rfl rfl ?_
    refine aw_iconst (v := 0) K dX6_count_146 (by decide) ?_
    refine aw_aald K dX6_count_147 rfl (vp_in_nI (n := 0) (by decide) (by decide)) rfl ?_
    refine aw_callV_I K (tX2_isNothing l g sta _ 7 rfl) rfl (by decide) fX2_isNothing lX6_322 dX6_count_148 rfl clsX2 rfl (Nat.le_of_ble_eq_true rfl) ?_
    refine aw_if_eq (tgt := 159) K dX6_count_151 (by decide) (fun b151 => ?_) (fun b151 => ?_)
    · refine aw_al0 K dX6_count_159 ?_
      refine aw_getR K gX6_46 dX6_count_160 rfl rfl ?_
      refine aw_iconst (v := 0) K dX6_count_163 (by decide) ?_
      refine aw_aald K dX6_count_164 rfl (vp_in_nI (n := 0) (by decide) (by decide)) rfl ?_
      refine aw_getI K gX6_326 dX6_count_165 rfl rfl ?_
      refine aw_iret K rfl dX6_count_168 ?_
      refine ⟨?_, rfl⟩
      rw [cnX, if_neg (show ¬ a.toInt = 0 by omega), if_neg (show ¬ a.toInt = 1 by omega), if_neg (show ¬ a.toInt = 2 by omega), if_neg (show ¬ a.toInt = 3 by omega), if_neg (show ¬ a.toInt = 4 by omega), if_neg (show ¬ a.toInt = 5 by omega), if_neg (show ¬ a.toInt = 6 by omega), if_neg (show ¬ a.toInt = 7 by omega), if_neg (show ¬ a.toInt = 8 by omega), if_neg (show ¬ a.toInt = 9 by omega), if_pos (show a.toInt = 10 from s10), if_neg (bI_0.mp b151)]
    · refine aw_bipush (v := (-4)) K dX6_count_154 (by decide) ?_
      refine aw_goto (tgt := 168) K dX6_count_156 (by decide) ?_
      refine aw_iret K rfl dX6_count_168 ?_
      refine ⟨?_, rfl⟩
      rw [cnX, if_neg (show ¬ a.toInt = 0 by omega), if_neg (show ¬ a.toInt = 1 by omega), if_neg (show ¬ a.toInt = 2 by omega), if_neg (show ¬ a.toInt = 3 by omega), if_neg (show ¬ a.toInt = 4 by omega), if_neg (show ¬ a.toInt = 5 by omega), if_neg (show ¬ a.toInt = 6 by omega), if_neg (show ¬ a.toInt = 7 by omega), if_neg (show ¬ a.toInt = 8 by omega), if_neg (show ¬ a.toInt = 9 by omega), if_pos (show a.toInt = 10 from s10), if_pos (bI_1.mp b151)]
  · show AW _ _ _ _ _ 169 _ _ _
    refine aw_iconst (v := (-1)) K dX6_count_169 (by decide) ?_
    refine aw_iret K rfl dX6_count_170 ?_
    refine ⟨?_, rfl⟩
    rw [cnX, if_neg (show ¬ a.toInt = 0 by omega), if_neg (show ¬ a.toInt = 1 by omega), if_neg (show ¬ a.toInt = 2 by omega), if_neg (show ¬ a.toInt = 3 by omega), if_neg (show ¬ a.toInt = 4 by omega), if_neg (show ¬ a.toInt = 5 by omega), if_neg (show ¬ a.toInt = 6 by omega), if_neg (show ¬ a.toInt = 7 by omega), if_neg (show ¬ a.toInt = 8 by omega), if_neg (show ¬ a.toInt = 9 by omega), if_neg (show ¬ a.toInt = 10 by omega)]

theorem cn_eq {hx hm : HS} {N T Wn : Nat} (r : REL hx hm) (s : SHE hx hm) (H : XW hx N T Wn) (ww : wrdW hx N Wn) (a : Int32) : cnX hx a N T Wn = cnV hm.1 a N T Wn := by
  have e5 : sumU (fun t => bI (0 < rmV hm.1 t)) T = opV hx 4095 T := by
    rw [op_all H]
    exact sumU_c T (fun t _ => by rw [rmV_eq r])
  have e7 : sumU (fun w => ctV hm.1 Wn w) Wn = sumU (fun j => bI (cgV hx (hx.1 26 j) (hx.1 27 j) Wn = nI j)) Wn := sumU_c Wn (fun w hw => by rw [ct_eq r, dc_ct ww H.2.2.1.2 hw])
  obtain ⟨s1, s2, -, s4, -⟩ := s 0 (by decide)
  have e10 : (if hm.1 25 0 = -4 then (-4 : Int32) else hm.1 26 0) = if hx.1 7 2 = -1 then -4 else hx.1 7 2 := by
    by_cases q : hx.1 7 2 = -1
    · have e : hm.1 25 0 = -4 := s1.trans (if_pos q)
      rw [if_pos q, if_pos e]
    · have e : hm.1 25 0 = hx.1 7 1 := s1.trans (if_neg q)
      rw [if_neg q, if_neg (by rw [e]; exact s4)]
      exact s2 q
  unfold cnX cnV
  rw [e5, e7, e10, INV.b1 r, INV.b2 r, INV.b3 r, INV.b4 r, INV.b5 r, r.r (17, 2) (by decide), r.r (18, 3) (by decide), r.r (19, 4) (by decide)]
  rfl
def wwX (h : HS) (a b : Int32) (n : Nat) : Int32 := sumU (fun j => bI (h.1 31 j &&& (a ^^^ (-1)) = 0 ∧ (b = 0 ∨ h.1 11 9 ≤ h.1 29 j))) n
set_option maxHeartbeats 4000000 in
set_option maxRecDepth 100000 in
theorem lpeX6_wordsWithin {l : Launch} {g : Geo} {sta : Nat → Nat} {k : KT} (K : AOK (wX l g sta) mX6_wordsWithin k) (h : HS) (a b : Int32) {N T Wn : Nat} (H : XW h N T Wn) :
    ∀ (n i : Nat), i + n = Wn → AW (wX l g sta) (DI (wwX h a b Wn) h) 2 mX6_wordsWithin k 5 [some (.ref (g.2.1 0)), some (.int a), some (.int b), some (.int (wwX h a b i)), some (.int (nI i)), none] [] h := by
  intro n
  have h3 := H.2.2.1.2
  induction n with
  | zero =>
    intro i k1
    obtain rfl : i = Wn := by omega
    refine aw_il4 K dX6_wordsWithin_5 ?_
    refine aw_al0 K dX6_wordsWithin_7 ?_
    refine aw_getR K gX6_26 dX6_wordsWithin_8 rfl rfl ?_
    refine aw_getI K gX6_255 dX6_wordsWithin_11 rfl rfl ?_
    rw [H.2.2.1.1]
    refine aw_icmp_ge (tgt := 87) K dX6_wordsWithin_14 (by decide) (fun b14 => ?_) (fun b14 => ?_)
    · refine aw_il3 K dX6_wordsWithin_87 ?_
      refine aw_iret K rfl dX6_wordsWithin_88 ?_
      exact ⟨rfl, rfl⟩
    · exact absurd (Int32.le_refl _) b14
  | succ n ih =>
    intro i k1
    refine aw_il4 K dX6_wordsWithin_5 ?_
    refine aw_al0 K dX6_wordsWithin_7 ?_
    refine aw_getR K gX6_26 dX6_wordsWithin_8 rfl rfl ?_
    refine aw_getI K gX6_255 dX6_wordsWithin_11 rfl rfl ?_
    rw [H.2.2.1.1]
    refine aw_icmp_ge (tgt := 87) K dX6_wordsWithin_14 (by decide) (fun b14 => ?_) (fun b14 => ?_)
    · exact absurd b14 (nI_ge (by omega) (by omega))
    · refine aw_al0 K dX6_wordsWithin_17 ?_
      refine aw_getR K gX6_26 dX6_wordsWithin_18 rfl rfl ?_
      refine aw_getR K gX6_351 dX6_wordsWithin_21 rfl rfl ?_
      refine aw_il4 K dX6_wordsWithin_24 ?_
      refine aw_iald K dX6_wordsWithin_26 rfl (vp_in_nI (by omega) (by decide)) ?_
      rw [nI_clamp (show i < 2 ^ 31 by omega)]
      refine aw_il1 K dX6_wordsWithin_27 ?_
      refine aw_iconst (v := (-1)) K dX6_wordsWithin_28 (by decide) ?_
      refine aw_ixor K dX6_wordsWithin_29 ?_
      refine aw_iand K dX6_wordsWithin_30 ?_
      refine aw_if_ne (tgt := 38) K dX6_wordsWithin_31 (by decide) (fun b31 => ?_) (fun b31 => ?_)
      · refine aw_iconst (v := 0) K dX6_wordsWithin_38 (by decide) ?_
        refine aw_is5 K dX6_wordsWithin_39 (by decide) rfl ?_
        refine aw_il3 K dX6_wordsWithin_41 ?_
        refine aw_il5 K dX6_wordsWithin_42 ?_
        refine aw_if_eq (tgt := 75) K dX6_wordsWithin_44 (by decide) (fun b44 => ?_) (fun b44 => ?_)
        · refine aw_iconst (v := 0) K dX6_wordsWithin_75 (by decide) ?_
          refine aw_callS_I K (tX6_oneIf l g sta _ _) rfl (by decide) fX6_oneIf lX6_92 dX6_wordsWithin_76 rfl (Nat.le_of_ble_eq_true rfl) ?_
          refine aw_iadd K dX6_wordsWithin_79 ?_
          refine aw_is3 K dX6_wordsWithin_80 (by decide) rfl ?_
          refine aw_ii4 (v := _ + 1) K dX6_wordsWithin_81 rfl (by decide) rfl ?_
          refine aw_goto (tgt := 5) K dX6_wordsWithin_84 (by decide) ?_
          rw [nI_1]
          refine aw_sub [some (.ref (g.2.1 0)), some (.int _), some (.int _), some (.int _), some (.int _), none] ⟨rfl, rfl, rfl, rfl, rfl, trivial⟩ ?_
          have z := ih (i + 1) (by omega)
          rw [show wwX h a b (i + 1) = wwX h a b i + 0 from congrArg (wwX h a b i + ·) (bI_f (fun q => b31 q.1))] at z
          exact z
        · refine aw_il2 K dX6_wordsWithin_47 ?_
          refine aw_if_eq (tgt := 71) K dX6_wordsWithin_48 (by decide) (fun b48 => ?_) (fun b48 => ?_)
          · refine aw_iconst (v := 1) K dX6_wordsWithin_71 (by decide) ?_
            refine aw_goto (tgt := 76) K dX6_wordsWithin_72 (by decide) ?_
            refine aw_callS_I K (tX6_oneIf l g sta _ _) rfl (by decide) fX6_oneIf lX6_92 dX6_wordsWithin_76 rfl (Nat.le_of_ble_eq_true rfl) ?_
            refine aw_iadd K dX6_wordsWithin_79 ?_
            refine aw_is3 K dX6_wordsWithin_80 (by decide) rfl ?_
            refine aw_ii4 (v := _ + 1) K dX6_wordsWithin_81 rfl (by decide) rfl ?_
            refine aw_goto (tgt := 5) K dX6_wordsWithin_84 (by decide) ?_
            rw [nI_1]
            refine aw_sub [some (.ref (g.2.1 0)), some (.int _), some (.int _), some (.int _), some (.int _), none] ⟨rfl, rfl, rfl, rfl, rfl, trivial⟩ ?_
            exact absurd rfl b44
          · refine aw_al0 K dX6_wordsWithin_51 ?_
            refine aw_getR K gX6_26 dX6_wordsWithin_52 rfl rfl ?_
            refine aw_getR K gX6_230 dX6_wordsWithin_55 rfl rfl ?_
            refine aw_il4 K dX6_wordsWithin_58 ?_
            refine aw_iald K dX6_wordsWithin_60 rfl (vp_in_nI (by omega) (by decide)) ?_
            rw [nI_clamp (show i < 2 ^ 31 by omega)]
            refine aw_al0 K dX6_wordsWithin_61 ?_
            refine aw_getR K gX6_50 dX6_wordsWithin_62 rfl rfl ?_
            refine aw_bipush (v := 9) K dX6_wordsWithin_65 (by decide) ?_
            refine aw_iald K dX6_wordsWithin_67 rfl (vp_in_nI (n := 9) (by decide) (by decide)) ?_
            refine aw_icmp_lt (tgt := 75) K dX6_wordsWithin_68 (by decide) (fun b68 => ?_) (fun b68 => ?_)
            · refine aw_iconst (v := 0) K dX6_wordsWithin_75 (by decide) ?_
              refine aw_callS_I K (tX6_oneIf l g sta _ _) rfl (by decide) fX6_oneIf lX6_92 dX6_wordsWithin_76 rfl (Nat.le_of_ble_eq_true rfl) ?_
              refine aw_iadd K dX6_wordsWithin_79 ?_
              refine aw_is3 K dX6_wordsWithin_80 (by decide) rfl ?_
              refine aw_ii4 (v := _ + 1) K dX6_wordsWithin_81 rfl (by decide) rfl ?_
              refine aw_goto (tgt := 5) K dX6_wordsWithin_84 (by decide) ?_
              rw [nI_1]
              refine aw_sub [some (.ref (g.2.1 0)), some (.int _), some (.int _), some (.int _), some (.int _), none] ⟨rfl, rfl, rfl, rfl, rfl, trivial⟩ ?_
              exact absurd rfl b44
            · refine aw_iconst (v := 1) K dX6_wordsWithin_71 (by decide) ?_
              refine aw_goto (tgt := 76) K dX6_wordsWithin_72 (by decide) ?_
              refine aw_callS_I K (tX6_oneIf l g sta _ _) rfl (by decide) fX6_oneIf lX6_92 dX6_wordsWithin_76 rfl (Nat.le_of_ble_eq_true rfl) ?_
              refine aw_iadd K dX6_wordsWithin_79 ?_
              refine aw_is3 K dX6_wordsWithin_80 (by decide) rfl ?_
              refine aw_ii4 (v := _ + 1) K dX6_wordsWithin_81 rfl (by decide) rfl ?_
              refine aw_goto (tgt := 5) K dX6_wordsWithin_84 (by decide) ?_
              rw [nI_1]
              refine aw_sub [some (.ref (g.2.1 0)), some (.int _), some (.int _), some (.int _), some (.int _), none] ⟨rfl, rfl, rfl, rfl, rfl, trivial⟩ ?_
              exact absurd rfl b44
      · refine aw_iconst (v := 1) K dX6_wordsWithin_34 (by decide) ?_
        refine aw_goto (tgt := 39) K dX6_wordsWithin_35 (by decide) ?_
        refine aw_is5 K dX6_wordsWithin_39 (by decide) rfl ?_
        refine aw_il3 K dX6_wordsWithin_41 ?_
        refine aw_il5 K dX6_wordsWithin_42 ?_
        refine aw_if_eq (tgt := 75) K dX6_wordsWithin_44 (by decide) (fun b44 => ?_) (fun b44 => ?_)
        · refine aw_iconst (v := 0) K dX6_wordsWithin_75 (by decide) ?_
          refine aw_callS_I K (tX6_oneIf l g sta _ _) rfl (by decide) fX6_oneIf lX6_92 dX6_wordsWithin_76 rfl (Nat.le_of_ble_eq_true rfl) ?_
          refine aw_iadd K dX6_wordsWithin_79 ?_
          refine aw_is3 K dX6_wordsWithin_80 (by decide) rfl ?_
          refine aw_ii4 (v := _ + 1) K dX6_wordsWithin_81 rfl (by decide) rfl ?_
          refine aw_goto (tgt := 5) K dX6_wordsWithin_84 (by decide) ?_
          rw [nI_1]
          refine aw_sub [some (.ref (g.2.1 0)), some (.int _), some (.int _), some (.int _), some (.int _), none] ⟨rfl, rfl, rfl, rfl, rfl, trivial⟩ ?_
          exact absurd b44 (by decide)
        · refine aw_il2 K dX6_wordsWithin_47 ?_
          refine aw_if_eq (tgt := 71) K dX6_wordsWithin_48 (by decide) (fun b48 => ?_) (fun b48 => ?_)
          · refine aw_iconst (v := 1) K dX6_wordsWithin_71 (by decide) ?_
            refine aw_goto (tgt := 76) K dX6_wordsWithin_72 (by decide) ?_
            refine aw_callS_I K (tX6_oneIf l g sta _ _) rfl (by decide) fX6_oneIf lX6_92 dX6_wordsWithin_76 rfl (Nat.le_of_ble_eq_true rfl) ?_
            refine aw_iadd K dX6_wordsWithin_79 ?_
            refine aw_is3 K dX6_wordsWithin_80 (by decide) rfl ?_
            refine aw_ii4 (v := _ + 1) K dX6_wordsWithin_81 rfl (by decide) rfl ?_
            refine aw_goto (tgt := 5) K dX6_wordsWithin_84 (by decide) ?_
            rw [nI_1]
            refine aw_sub [some (.ref (g.2.1 0)), some (.int _), some (.int _), some (.int _), some (.int _), none] ⟨rfl, rfl, rfl, rfl, rfl, trivial⟩ ?_
            have z := ih (i + 1) (by omega)
            rw [show wwX h a b (i + 1) = wwX h a b i + 1 from congrArg (wwX h a b i + ·) (bI_t ⟨b31, Or.inl b48⟩)] at z
            exact z
          · refine aw_al0 K dX6_wordsWithin_51 ?_
            refine aw_getR K gX6_26 dX6_wordsWithin_52 rfl rfl ?_
            refine aw_getR K gX6_230 dX6_wordsWithin_55 rfl rfl ?_
            refine aw_il4 K dX6_wordsWithin_58 ?_
            refine aw_iald K dX6_wordsWithin_60 rfl (vp_in_nI (by omega) (by decide)) ?_
            rw [nI_clamp (show i < 2 ^ 31 by omega)]
            refine aw_al0 K dX6_wordsWithin_61 ?_
            refine aw_getR K gX6_50 dX6_wordsWithin_62 rfl rfl ?_
            refine aw_bipush (v := 9) K dX6_wordsWithin_65 (by decide) ?_
            refine aw_iald K dX6_wordsWithin_67 rfl (vp_in_nI (n := 9) (by decide) (by decide)) ?_
            refine aw_icmp_lt (tgt := 75) K dX6_wordsWithin_68 (by decide) (fun b68 => ?_) (fun b68 => ?_)
            · refine aw_iconst (v := 0) K dX6_wordsWithin_75 (by decide) ?_
              refine aw_callS_I K (tX6_oneIf l g sta _ _) rfl (by decide) fX6_oneIf lX6_92 dX6_wordsWithin_76 rfl (Nat.le_of_ble_eq_true rfl) ?_
              refine aw_iadd K dX6_wordsWithin_79 ?_
              refine aw_is3 K dX6_wordsWithin_80 (by decide) rfl ?_
              refine aw_ii4 (v := _ + 1) K dX6_wordsWithin_81 rfl (by decide) rfl ?_
              refine aw_goto (tgt := 5) K dX6_wordsWithin_84 (by decide) ?_
              rw [nI_1]
              refine aw_sub [some (.ref (g.2.1 0)), some (.int _), some (.int _), some (.int _), some (.int _), none] ⟨rfl, rfl, rfl, rfl, rfl, trivial⟩ ?_
              have z := ih (i + 1) (by omega)
              rw [show wwX h a b (i + 1) = wwX h a b i + 0 from congrArg (wwX h a b i + ·) (bI_f (fun q => q.2.elim b48 (fun z => Int32.not_le.mpr b68 z)))] at z
              exact z
            · refine aw_iconst (v := 1) K dX6_wordsWithin_71 (by decide) ?_
              refine aw_goto (tgt := 76) K dX6_wordsWithin_72 (by decide) ?_
              refine aw_callS_I K (tX6_oneIf l g sta _ _) rfl (by decide) fX6_oneIf lX6_92 dX6_wordsWithin_76 rfl (Nat.le_of_ble_eq_true rfl) ?_
              refine aw_iadd K dX6_wordsWithin_79 ?_
              refine aw_is3 K dX6_wordsWithin_80 (by decide) rfl ?_
              refine aw_ii4 (v := _ + 1) K dX6_wordsWithin_81 rfl (by decide) rfl ?_
              refine aw_goto (tgt := 5) K dX6_wordsWithin_84 (by decide) ?_
              rw [nI_1]
              refine aw_sub [some (.ref (g.2.1 0)), some (.int _), some (.int _), some (.int _), some (.int _), none] ⟨rfl, rfl, rfl, rfl, rfl, trivial⟩ ?_
              have z := ih (i + 1) (by omega)
              rw [show wwX h a b (i + 1) = wwX h a b i + 1 from congrArg (wwX h a b i + ·) (bI_t ⟨b31, Or.inr (Int32.not_lt.mp b68)⟩)] at z
              exact z
set_option maxHeartbeats 4000000 in
set_option maxRecDepth 100000 in
theorem eX6_wordsWithin (l : Launch) (g : Geo) (sta : Nat → Nat) (h : HS) (a b : Int32) {N T Wn : Nat} (H : XW h N T Wn) : CT (wX l g sta) 2 mX6_wordsWithin [.ref (g.2.1 0), .int a, .int b] h (DI (wwX h a b Wn) h) := by
  refine CT.at [some (.ref (g.2.1 0)), some (.int a), some (.int b), none, none, none] 3 rfl (by decide) (Nat.le_of_ble_eq_true rfl) (fun k K => ?_)
  refine aw_iconst (v := 0) K dX6_wordsWithin_0 (by decide) ?_
  refine aw_is3 K dX6_wordsWithin_1 (by decide) rfl ?_
  refine aw_iconst (v := 0) K dX6_wordsWithin_2 (by decide) ?_
  refine aw_is4 K dX6_wordsWithin_3 (by decide) rfl ?_
  exact lpeX6_wordsWithin K h a b H Wn 0 (by omega)

def rgX (h : HS) (a b : Int32) (Wn : Nat) : Int32 := if 0 ≤ a ∧ a ≤ 1 <<< (h.1 1 5 &&& 31) - 1 then (if b.toInt = 0 then h.1 3 7 else if b.toInt = 1 then wwX h a 0 Wn else if b.toInt = 2 then wwX h 4095 1 Wn else if b.toInt = 3 then wwX h a 1 Wn else -1) else -1
set_option maxHeartbeats 4000000 in
set_option maxRecDepth 100000 in
theorem eX6_ring (l : Launch) (g : Geo) (sta : Nat → Nat) (h : HS) (a b : Int32) {N T Wn : Nat} (H : XW h N T Wn) : CT (wX l g sta) 7 mX6_ring [.ref (g.2.1 0), .int a, .int b] h (DI (rgX h a b Wn) h) := by
  refine CT.at [some (.ref (g.2.1 0)), some (.int a), some (.int b)] 0 rfl (by decide) (Nat.le_of_ble_eq_true rfl) (fun k K => ?_)
  refine aw_al0 K dX6_ring_0 ?_
  refine aw_il1 K dX6_ring_1 ?_
  refine aw_callV_I K (tX6_isHeap l g sta _ _) rfl (by decide) fX6_isHeap lX6_196 dX6_ring_2 rfl clsX6 rfl (Nat.le_of_ble_eq_true rfl) ?_
  refine aw_if_ne (tgt := 10) K dX6_ring_5 (by decide) (fun b5 => ?_) (fun b5 => ?_)
  · refine aw_il2 K dX6_ring_10 ?_
    refine aw_tsw (tgt := 71) K dX6_ring_11 (by decide) (by decide) (by decide) ⟨fun s0 => ?_, fun s1 => ?_, fun s2 => ?_, fun s3 => ?_, trivial⟩ (fun sd => ?_)
    · show AW _ _ _ _ _ 40 _ _ _
      refine aw_al0 K dX6_ring_40 ?_
      refine aw_getR K gX6_26 dX6_ring_41 rfl rfl ?_
      refine aw_getI K gX6_255 dX6_ring_44 rfl rfl ?_
      refine aw_iret K rfl dX6_ring_47 ?_
      refine ⟨?_, rfl⟩
      rw [rgX, if_pos (bI_1.mp b5), if_pos (show b.toInt = 0 from s0)]
    · show AW _ _ _ _ _ 48 _ _ _
      refine aw_al0 K dX6_ring_48 ?_
      refine aw_il1 K dX6_ring_49 ?_
      refine aw_iconst (v := 0) K dX6_ring_50 (by decide) ?_
      refine aw_callV_I K (eX6_wordsWithin l g sta _ _ _ H) rfl (by decide) fX6_wordsWithin lX6_256 dX6_ring_51 rfl clsX6 rfl (Nat.le_of_ble_eq_true rfl) ?_
      refine aw_iret K rfl dX6_ring_54 ?_
      refine ⟨?_, rfl⟩
      rw [rgX, if_pos (bI_1.mp b5), if_neg (show ¬ b.toInt = 0 by omega), if_pos (show b.toInt = 1 from s1)]
    · show AW _ _ _ _ _ 55 _ _ _
      refine aw_al0 K dX6_ring_55 ?_
      refine aw_sipush (v := 4095) K dX6_ring_56 (by decide) ?_
      refine aw_iconst (v := 1) K dX6_ring_59 (by decide) ?_
      refine aw_callV_I K (eX6_wordsWithin l g sta _ _ _ H) rfl (by decide) fX6_wordsWithin lX6_256 dX6_ring_60 rfl clsX6 rfl (Nat.le_of_ble_eq_true rfl) ?_
      refine aw_iret K rfl dX6_ring_63 ?_
      refine ⟨?_, rfl⟩
      rw [rgX, if_pos (bI_1.mp b5), if_neg (show ¬ b.toInt = 0 by omega), if_neg (show ¬ b.toInt = 1 by omega), if_pos (show b.toInt = 2 from s2)]
    · show AW _ _ _ _ _ 64 _ _ _
      refine aw_al0 K dX6_ring_64 ?_
      refine aw_il1 K dX6_ring_65 ?_
      refine aw_iconst (v := 1) K dX6_ring_66 (by decide) ?_
      refine aw_callV_I K (eX6_wordsWithin l g sta _ _ _ H) rfl (by decide) fX6_wordsWithin lX6_256 dX6_ring_67 rfl clsX6 rfl (Nat.le_of_ble_eq_true rfl) ?_
      refine aw_iret K rfl dX6_ring_70 ?_
      refine ⟨?_, rfl⟩
      rw [rgX, if_pos (bI_1.mp b5), if_neg (show ¬ b.toInt = 0 by omega), if_neg (show ¬ b.toInt = 1 by omega), if_neg (show ¬ b.toInt = 2 by omega), if_pos (show b.toInt = 3 from s3)]
    · show AW _ _ _ _ _ 71 _ _ _
      refine aw_iconst (v := (-1)) K dX6_ring_71 (by decide) ?_
      refine aw_iret K rfl dX6_ring_72 ?_
      refine ⟨?_, rfl⟩
      rw [rgX, if_pos (bI_1.mp b5), if_neg (show ¬ b.toInt = 0 by omega), if_neg (show ¬ b.toInt = 1 by omega), if_neg (show ¬ b.toInt = 2 by omega), if_neg (show ¬ b.toInt = 3 by omega)]
  · refine aw_iconst (v := (-1)) K dX6_ring_8 (by decide) ?_
    refine aw_iret K rfl dX6_ring_9 ?_
    refine ⟨?_, rfl⟩
    rw [rgX, if_neg (bI_0.mp b5)]

theorem b_m1' : ∀ i, i < 32 → bt (-1) i = true := by decide +kernel
theorem sub_i {x s : Int32} : x &&& (s ^^^ (-1)) = 0 ↔ ∀ i, i < 32 → bt x i = true → bt s i = true := by
  constructor
  · intro q i hi h
    have e : bt (x &&& (s ^^^ (-1))) i = bt 0 i := by rw [q]
    rw [b_and, b_xor, b_0, b_m1' i hi, h] at e
    cases z : bt s i
    · rw [z] at e
      exact absurd e (by decide)
    · rfl
  · intro q
    refine b_ext (fun i hi => ?_)
    rw [b_and, b_xor, b_0, b_m1' i hi]
    cases z : bt x i
    · rfl
    · rw [q i hi z]
      rfl
theorem ends_i {s : Int32} {i j : Nat} (hi : i < 12) (hj : j < 12) : ((1 : Int32) <<< (nI i &&& 31) ||| (1 : Int32) <<< (nI j &&& 31)) &&& (s ^^^ (-1)) = 0 ↔ bt s i = true ∧ bt s j = true := by
  rw [sub_i]
  constructor
  · intro q
    refine ⟨q i (by omega) ?_, q j (by omega) ?_⟩
    · rw [b_or, b_sh1 (by omega) (by omega)]
      simp
    · rw [b_or, b_sh1 (r := j) (by omega) (by omega)]
      simp
  · rintro ⟨q1, q2⟩ k hk h
    rw [b_or, b_sh1 (by omega) hk, b_sh1 (by omega) hk, Bool.or_eq_true, decide_eq_true_iff, decide_eq_true_iff] at h
    rcases h with rfl | rfl
    · exact q1
    · exact q2
theorem btw_i {s : Int32} {i j : Nat} (hi : i < 12) (hj : j < 12) : ((s >>> (nI i &&& 31)) &&& (s >>> (nI j &&& 31))) &&& 1 = 1 ↔ bt s i = true ∧ bt s j = true := by
  have e : ∀ y : Int32, y &&& 1 = 1 ↔ bt y 0 = true := by
    intro y
    have q := b_and1 y
    rcases and1_01 y with z | z
    · rw [z]
      have := q.mp z
      rw [this]
      decide
    · rw [z]
      cases u : bt y 0
      · rw [q.mpr u] at z
        exact absurd z (by decide)
      · simp
  rw [e, b_and, b_sshr i (by omega) s (by decide), b_sshr j (by omega) s (by decide), if_pos (by omega), if_pos (by omega), Bool.and_eq_true]
  exact Iff.rfl
theorem bt_4095 : ∀ i, i < 12 → bt 4095 i = true := by decide +kernel
/-- within a heap: both tell the same -/
theorem ww_btw {h : HS} {N Wn w : Nat} (hN : N ≤ 12) (ww : wrdW h N Wn) (hw : w < Wn) (s : Int32) : h.1 31 w &&& (s ^^^ (-1)) = 0 ↔ btwP (vX h) s w := by
  obtain ⟨d1, d2, -, d4⟩ := ww w hw
  obtain ⟨i, hi, ei⟩ := vp_in_of d1 (by omega)
  obtain ⟨j, hj, ej⟩ := vp_in_of d2 (by omega)
  show _ ↔ ((s >>> (h.1 26 w &&& 31)) &&& (s >>> (h.1 27 w &&& 31))) &&& 1 = 1
  rw [d4, ei, ej, ends_i (by omega) (by omega), btw_i (by omega) (by omega)]
theorem ww_all {h : HS} {N Wn w : Nat} (hN : N ≤ 12) (ww : wrdW h N Wn) (hw : w < Wn) : h.1 31 w &&& ((4095 : Int32) ^^^ (-1)) = 0 := by
  obtain ⟨d1, d2, -, d4⟩ := ww w hw
  obtain ⟨i, hi, ei⟩ := vp_in_of d1 (by omega)
  obtain ⟨j, hj, ej⟩ := vp_in_of d2 (by omega)
  rw [d4, ei, ej, ends_i (by omega) (by omega)]
  exact ⟨bt_4095 i (by omega), bt_4095 j (by omega)⟩
theorem rgP_eq {hx hm : HS} (r : REL hx hm) (s b : Int32) (n : Nat) : rgV hm.1 s b n = rgV (vX hx) s b n := by
  unfold rgV
  refine sumU_c n (fun w _ => bI_congr ?_)
  unfold rgP btwP gdP
  rw [r.r (26, 18) (by decide), r.r (27, 19) (by decide), r.r (11, 11) (by decide), r.r (29, 21) (by decide)]
  exact Iff.rfl
theorem rg_1 {h : HS} {N Wn : Nat} (hN : N ≤ 12) (ww : wrdW h N Wn) (s : Int32) : rgV (vX h) s 1 Wn = wwX h s 0 Wn := by
  refine sumU_c Wn (fun w hw => bI_congr ?_)
  rw [ww_btw hN ww hw]
  constructor
  · rintro (q | ⟨-, q⟩ | ⟨q, -⟩ | ⟨q, -⟩)
    · exact absurd q (by decide)
    · exact ⟨q, Or.inl rfl⟩
    · exact absurd q (by decide)
    · exact absurd q (by decide)
  · rintro ⟨q, -⟩
    exact Or.inr (Or.inl ⟨rfl, q⟩)
theorem rg_2 {h : HS} {N Wn : Nat} (hN : N ≤ 12) (ww : wrdW h N Wn) (s : Int32) : rgV (vX h) s 2 Wn = wwX h 4095 1 Wn := by
  refine sumU_c Wn (fun w hw => bI_congr ?_)
  constructor
  · rintro (q | ⟨q, -⟩ | ⟨-, q⟩ | ⟨q, -⟩)
    · exact absurd q (by decide)
    · exact absurd q (by decide)
    · exact ⟨ww_all hN ww hw, Or.inr q⟩
    · exact absurd q (by decide)
  · rintro ⟨-, q⟩
    exact Or.inr (Or.inr (Or.inl ⟨rfl, q.resolve_left (by decide)⟩))
theorem rg_3 {h : HS} {N Wn : Nat} (hN : N ≤ 12) (ww : wrdW h N Wn) (s : Int32) : rgV (vX h) s 3 Wn = wwX h s 1 Wn := by
  refine sumU_c Wn (fun w hw => bI_congr ?_)
  rw [ww_btw hN ww hw]
  constructor
  · rintro (q | ⟨q, -⟩ | ⟨q, -⟩ | ⟨-, q, q2⟩)
    · exact absurd q (by decide)
    · exact absurd q (by decide)
    · exact absurd q (by decide)
    · exact ⟨q2, Or.inr q⟩
  · rintro ⟨q, q2⟩
    exact Or.inr (Or.inr (Or.inr ⟨rfl, q2.resolve_left (by decide), q⟩))
theorem rg_eq {hx hm : HS} {N T Wn : Nat} (r : REL hx hm) (H : XW hx N T Wn) (ww : wrdW hx N Wn) (a b : Int32) : rgX hx a b Wn = if (0 ≤ a ∧ a ≤ 1 <<< (hm.1 0 0 &&& 31) - 1) ∧ (0 ≤ b ∧ b ≤ 3) then rgV hm.1 a b Wn else -1 := by
  rw [INV.b1 r, rgP_eq r]
  unfold rgX
  by_cases q : 0 ≤ a ∧ a ≤ 1 <<< (hx.1 1 5 &&& 31) - 1
  · rw [if_pos q]
    by_cases z : 0 ≤ b ∧ b ≤ 3
    · have cq : (0 ≤ a ∧ a ≤ 1 <<< (hx.1 1 5 &&& 31) - 1) ∧ (0 ≤ b ∧ b ≤ 3) := ⟨q, z⟩
      rw [if_pos cq]
      obtain ⟨k, hk, rfl⟩ := vp_in_of (inB (M := 3) (by decide) z) (by decide)
      rw [nI_toInt (by omega)]
      match k, hk with
      | 0, _ =>
        rw [if_pos (by decide), H.2.2.1.1]
        exact (rgV_0 _ _ _).symm
      | 1, _ =>
        rw [if_neg (by decide), if_pos (by decide)]
        exact (rg_1 H.1.2 ww a).symm
      | 2, _ =>
        rw [if_neg (by decide), if_neg (by decide), if_pos (by decide)]
        exact (rg_2 H.1.2 ww a).symm
      | 3, _ =>
        rw [if_neg (by decide), if_neg (by decide), if_neg (by decide), if_pos (by decide)]
        exact (rg_3 H.1.2 ww a).symm
    · have cq : ¬ ((0 ≤ a ∧ a ≤ 1 <<< (hx.1 1 5 &&& 31) - 1) ∧ (0 ≤ b ∧ b ≤ 3)) := fun y => z y.2
      rw [if_neg cq]
      have z2 : ¬ (0 ≤ b.toInt ∧ b.toInt ≤ 3) := fun y => z ((inK (k := 3) (by decide)).mpr y)
      rw [if_neg (by omega), if_neg (by omega), if_neg (by omega), if_neg (by omega)]
  · rw [if_neg q, if_neg (fun y => q y.1)]
