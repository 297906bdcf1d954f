def tofV (v : Nat → Nat → Int32) (a b : Int32) : Int32 := if (0 ≤ a ∧ a ≤ v 0 6 - 1) ∧ (0 ≤ b ∧ b ≤ 5) then (if b = 0 then v 6 a.toNatClampNeg else if b = 1 then v 7 a.toNatClampNeg else if b = 2 then v 8 a.toNatClampNeg else if b = 3 then v 9 a.toNatClampNeg else if b = 4 then v 10 a.toNatClampNeg else rmV v a.toNatClampNeg) else -1
set_option maxHeartbeats 4000000 in
set_option maxRecDepth 100000 in
theorem tX7_tieOf (l : Launch) (g : Geo) (sta : Nat → Nat) (h : HS) (a b : Int32) {N T Wn : Nat} (H : MW h N T Wn) : CT (wM l g sta) 7 mX7_tieOf [.ref (g.2.1 0), .int a, .int b] h (DI (tofV h.1 a b) h) := by
  refine CT.at [some (.ref (g.2.1 0)), some (.int a), some (.int b)] 0 rfl (by decide) (Nat.le_of_ble_eq_true rfl) (fun k K => ?_)
  refine aw_al0 K dX7_tieOf_0 ?_
  refine aw_il1 K dX7_tieOf_1 ?_
  refine aw_callV_I K (tX7_isTie l g sta _ _) rfl (by decide) fX7_isTie lX7_131 dX7_tieOf_2 rfl clsX7 rfl (Nat.le_of_ble_eq_true rfl) ?_
  refine aw_if_eq (tgt := 20) K dX7_tieOf_5 (by decide) (fun b5 => ?_) (fun b5 => ?_)
  · refine aw_iconst (v := (-1)) K dX7_tieOf_20 (by decide) ?_
    refine aw_iret K rfl dX7_tieOf_21 ?_
    refine ⟨?_, rfl⟩
    rw [tofV, if_neg (fun q => bI_0.mp b5 q.1)]
  · refine aw_il2 K dX7_tieOf_8 ?_
    refine aw_i2l K dX7_tieOf_9 ?_
    refine aw_lconst (v := 0) K dX7_tieOf_10 (by decide) ?_
    refine aw_ldc2 K qX7_134 dX7_tieOf_11 ?_
    refine aw_callS_I K (in32 l g sta _ _ (0) (5) (by decide) (by decide)) rfl (by decide) fX7_in lX7_102 dX7_tieOf_14 rfl (Nat.le_of_ble_eq_true rfl) ?_
    refine aw_if_ne (tgt := 22) K dX7_tieOf_17 (by decide) (fun b17 => ?_) (fun b17 => ?_)
    · have ha : vp_in a 24 := inN H.2.1.1 H.2.1.2 (by decide) (bI_1.mp b5)
      refine aw_il2 K dX7_tieOf_22 ?_
      refine aw_if_ne (tgt := 35) K dX7_tieOf_23 (by decide) (fun b23 => ?_) (fun b23 => ?_)
      · refine aw_il2 K dX7_tieOf_35 ?_
        refine aw_iconst (v := 1) K dX7_tieOf_36 (by decide) ?_
        refine aw_icmp_ne (tgt := 49) K dX7_tieOf_37 (by decide) (fun b37 => ?_) (fun b37 => ?_)
        · refine aw_il2 K dX7_tieOf_49 ?_
          refine aw_iconst (v := 2) K dX7_tieOf_50 (by decide) ?_
          refine aw_icmp_ne (tgt := 63) K dX7_tieOf_51 (by decide) (fun b51 => ?_) (fun b51 => ?_)
          · refine aw_il2 K dX7_tieOf_63 ?_
            refine aw_iconst (v := 3) K dX7_tieOf_64 (by decide) ?_
            refine aw_icmp_ne (tgt := 77) K dX7_tieOf_65 (by decide) (fun b65 => ?_) (fun b65 => ?_)
            · refine aw_il2 K dX7_tieOf_77 ?_
              refine aw_iconst (v := 4) K dX7_tieOf_78 (by decide) ?_
              refine aw_icmp_ne (tgt := 91) K dX7_tieOf_79 (by decide) (fun b79 => ?_) (fun b79 => ?_)
              · refine aw_al0 K dX7_tieOf_91 ?_
                refine aw_il1 K dX7_tieOf_92 ?_
                refine aw_callV_I K (tX7_roomOf l g sta _ _ ha H) rfl (by decide) fX7_roomOf lX7_136 dX7_tieOf_93 rfl clsX7 rfl (Nat.le_of_ble_eq_true rfl) ?_
                refine aw_iret K rfl dX7_tieOf_96 ?_
                refine ⟨?_, rfl⟩
                rw [tofV, if_pos ⟨bI_1.mp b5, bI_1.mp b17⟩, if_neg b23, if_neg b37, if_neg b51, if_neg b65, if_neg b79]
              · refine aw_al0 K dX7_tieOf_82 ?_
                refine aw_getR K gX7_38 dX7_tieOf_83 rfl rfl ?_
                refine aw_il1 K dX7_tieOf_86 ?_
                refine aw_iald K dX7_tieOf_87 rfl ha ?_
                refine aw_goto (tgt := 96) K dX7_tieOf_88 (by decide) ?_
                refine aw_iret K rfl dX7_tieOf_96 ?_
                refine ⟨?_, rfl⟩
                rw [tofV, if_pos ⟨bI_1.mp b5, bI_1.mp b17⟩, if_neg b23, if_neg b37, if_neg b51, if_neg b65, if_pos b79]
            · refine aw_al0 K dX7_tieOf_68 ?_
              refine aw_getR K gX7_35 dX7_tieOf_69 rfl rfl ?_
              refine aw_il1 K dX7_tieOf_72 ?_
              refine aw_iald K dX7_tieOf_73 rfl ha ?_
              refine aw_goto (tgt := 96) K dX7_tieOf_74 (by decide) ?_
              refine aw_iret K rfl dX7_tieOf_96 ?_
              refine ⟨?_, rfl⟩
              rw [tofV, if_pos ⟨bI_1.mp b5, bI_1.mp b17⟩, if_neg b23, if_neg b37, if_neg b51, if_pos b65]
          · refine aw_al0 K dX7_tieOf_54 ?_
            refine aw_getR K gX7_32 dX7_tieOf_55 rfl rfl ?_
            refine aw_il1 K dX7_tieOf_58 ?_
            refine aw_iald K dX7_tieOf_59 rfl ha ?_
            refine aw_goto (tgt := 96) K dX7_tieOf_60 (by decide) ?_
            refine aw_iret K rfl dX7_tieOf_96 ?_
            refine ⟨?_, rfl⟩
            rw [tofV, if_pos ⟨bI_1.mp b5, bI_1.mp b17⟩, if_neg b23, if_neg b37, if_pos b51]
        · refine aw_al0 K dX7_tieOf_40 ?_
          refine aw_getR K gX7_29 dX7_tieOf_41 rfl rfl ?_
          refine aw_il1 K dX7_tieOf_44 ?_
          refine aw_iald K dX7_tieOf_45 rfl ha ?_
          refine aw_goto (tgt := 96) K dX7_tieOf_46 (by decide) ?_
          refine aw_iret K rfl dX7_tieOf_96 ?_
          refine ⟨?_, rfl⟩
          rw [tofV, if_pos ⟨bI_1.mp b5, bI_1.mp b17⟩, if_neg b23, if_pos b37]
      · refine aw_al0 K dX7_tieOf_26 ?_
        refine aw_getR K gX7_26 dX7_tieOf_27 rfl rfl ?_
        refine aw_il1 K dX7_tieOf_30 ?_
        refine aw_iald K dX7_tieOf_31 rfl ha ?_
        refine aw_goto (tgt := 96) K dX7_tieOf_32 (by decide) ?_
        refine aw_iret K rfl dX7_tieOf_96 ?_
        refine ⟨?_, rfl⟩
        rw [tofV, if_pos ⟨bI_1.mp b5, bI_1.mp b17⟩, if_pos b23]
    · refine aw_iconst (v := (-1)) K dX7_tieOf_20 (by decide) ?_
      refine aw_iret K rfl dX7_tieOf_21 ?_
      refine ⟨?_, rfl⟩
      rw [tofV, if_neg (fun q => bI_0.mp b17 q.2)]

def mnyV (v : Nat → Nat → Int32) (a : Int32) (T : Nat) : Int32 := sumU (fun t => bI ((v 6 t = a ∨ v 7 t = a) ∧ 0 < rmV v t)) T
def ofV (v : Nat → Nat → Int32) (a b : Int32) (T : Nat) : Int32 := if (0 ≤ a ∧ a ≤ v 0 0 - 1) ∧ (0 ≤ b ∧ b ≤ 6) then (if b.toInt = 0 then v 1 a.toNatClampNeg else if b.toInt = 1 then bI (¬ v 2 a.toNatClampNeg = 0) else if b.toInt = 2 then bI (¬ v 3 a.toNatClampNeg = 0) else if b.toInt = 3 then bI (v 0 12 < v 4 a.toNatClampNeg) else if b.toInt = 4 then v 4 a.toNatClampNeg else if b.toInt = 5 then gvV v a.toNatClampNeg else mnyV v a T) else -1
set_option maxHeartbeats 4000000 in
set_option maxRecDepth 100000 in
theorem lpX7_of {l : Launch} {g : Geo} {sta : Nat → Nat} {k : KT} (K : AOK (wM l g sta) mX7_of k) (h : HS) (a b : Int32) (ha : vp_in a 12) {N T Wn : Nat} (H : MW h N T Wn) (hok : (0 ≤ a ∧ a ≤ h.1 0 0 - 1) ∧ (0 ≤ b ∧ b ≤ 6)) :
    ∀ (n i : Nat), i + n = T → AW (wM l g sta) (DI (ofV h.1 a b T) h) 7 mX7_of k 27 [some (.ref (g.2.1 0)), some (.int a), some (.int b), some (.int (mnyV h.1 a i)), some (.int (nI i))] [] h := by
  intro n
  have h3 := H.2.1.2
  induction n with
  | zero =>
    intro i k1
    obtain rfl : i = T := by omega
    refine aw_il4 K dX7_of_27 ?_
    refine aw_al0 K dX7_of_29 ?_
    refine aw_getI K gX7_121 dX7_of_30 rfl rfl ?_
    rw [H.2.1.1]
    refine aw_icmp_ge (tgt := 81) K dX7_of_33 (by decide) (fun b33 => ?_) (fun b33 => ?_)
    · refine aw_il2 K dX7_of_81 ?_
      refine aw_tsw (tgt := 184) K dX7_of_82 (by decide) (by decide) (by decide) ⟨fun s0 => ?_, fun s1 => ?_, fun s2 => ?_, fun s3 => ?_, fun s4 => ?_, fun s5 => ?_, trivial⟩ (fun sd => ?_)
      · show AW _ _ _ _ _ 120 _ _ _
        refine aw_al0 K dX7_of_120 ?_
        refine aw_getR K gX7_7 dX7_of_121 rfl rfl ?_
        refine aw_il1 K dX7_of_124 ?_
        refine aw_iald K dX7_of_125 rfl ha ?_
        refine aw_iret K rfl dX7_of_126 ?_
        refine ⟨?_, rfl⟩
        rw [ofV, if_pos hok, if_pos (show b.toInt = 0 from s0)]
      · show AW _ _ _ _ _ 127 _ _ _
        refine aw_al0 K dX7_of_127 ?_
        refine aw_getR K gX7_13 dX7_of_128 rfl rfl ?_
        refine aw_il1 K dX7_of_131 ?_
        refine aw_zald K dX7_of_132 rfl ha ?_
        refine aw_if_eq (tgt := 140) K dX7_of_133 (by decide) (fun b133 => ?_) (fun b133 => ?_)
        · refine aw_iconst (v := 0) K dX7_of_140 (by decide) ?_
          refine aw_iret K rfl dX7_of_141 ?_
          refine ⟨?_, rfl⟩
          rw [ofV, if_pos hok, if_neg (by rw [s1]; decide), if_pos (show b.toInt = 1 from s1), bI_f (fun q => q b133)]
        · refine aw_iconst (v := 1) K dX7_of_136 (by decide) ?_
          refine aw_goto (tgt := 141) K dX7_of_137 (by decide) ?_
          refine aw_iret K rfl dX7_of_141 ?_
          refine ⟨?_, rfl⟩
          rw [ofV, if_pos hok, if_neg (by rw [s1]; decide), if_pos (show b.toInt = 1 from s1), bI_t b133]
      · show AW _ _ _ _ _ 142 _ _ _
        refine aw_al0 K dX7_of_142 ?_
        refine aw_getR K gX7_17 dX7_of_143 rfl rfl ?_
        refine aw_il1 K dX7_of_146 ?_
        refine aw_zald K dX7_of_147 rfl ha ?_
        refine aw_if_eq (tgt := 155) K dX7_of_148 (by decide) (fun b148 => ?_) (fun b148 => ?_)
        · refine aw_iconst (v := 0) K dX7_of_155 (by decide) ?_
          refine aw_iret K rfl dX7_of_156 ?_
          refine ⟨?_, rfl⟩
          rw [ofV, if_pos hok, if_neg (by rw [s2]; decide), if_neg (by rw [s2]; decide), if_pos (show b.toInt = 2 from s2), bI_f (fun q => q b148)]
        · refine aw_iconst (v := 1) K dX7_of_151 (by decide) ?_
          refine aw_goto (tgt := 156) K dX7_of_152 (by decide) ?_
          refine aw_iret K rfl dX7_of_156 ?_
          refine ⟨?_, rfl⟩
          rw [ofV, if_pos hok, if_neg (by rw [s2]; decide), if_neg (by rw [s2]; decide), if_pos (show b.toInt = 2 from s2), bI_t b148]
      · show AW _ _ _ _ _ 157 _ _ _
        refine aw_al0 K dX7_of_157 ?_
        refine aw_il1 K dX7_of_158 ?_
        refine aw_callV_I K (tX7_isFined l g sta _ _ ha) rfl (by decide) fX7_isFined lX7_128 dX7_of_159 rfl clsX7 rfl (Nat.le_of_ble_eq_true rfl) ?_
        refine aw_if_eq (tgt := 169) K dX7_of_162 (by decide) (fun b162 => ?_) (fun b162 => ?_)
        · refine aw_iconst (v := 0) K dX7_of_169 (by decide) ?_
          refine aw_iret K rfl dX7_of_170 ?_
          refine ⟨?_, rfl⟩
          rw [ofV, if_pos hok, if_neg (by rw [s3]; decide), if_neg (by rw [s3]; decide), if_neg (by rw [s3]; decide), if_pos (show b.toInt = 3 from s3), b162]
        · refine aw_iconst (v := 1) K dX7_of_165 (by decide) ?_
          refine aw_goto (tgt := 170) K dX7_of_166 (by decide) ?_
          refine aw_iret K rfl dX7_of_170 ?_
          refine ⟨?_, rfl⟩
          rw [ofV, if_pos hok, if_neg (by rw [s3]; decide), if_neg (by rw [s3]; decide), if_neg (by rw [s3]; decide), if_pos (show b.toInt = 3 from s3), bI_t (bI_1.mp b162)]
      · show AW _ _ _ _ _ 171 _ _ _
        refine aw_al0 K dX7_of_171 ?_
        refine aw_getR K gX7_20 dX7_of_172 rfl rfl ?_
        refine aw_il1 K dX7_of_175 ?_
        refine aw_iald K dX7_of_176 rfl ha ?_
        refine aw_iret K rfl dX7_of_177 ?_
        refine ⟨?_, rfl⟩
        rw [ofV, if_pos hok, if_neg (by rw [s4]; decide), if_neg (by rw [s4]; decide), if_neg (by rw [s4]; decide), if_neg (by rw [s4]; decide), if_pos (show b.toInt = 4 from s4)]
      · show AW _ _ _ _ _ 178 _ _ _
        refine aw_al0 K dX7_of_178 ?_
        refine aw_il1 K dX7_of_179 ?_
        refine aw_callV_I K (tX7_given l g sta _ _ ha) rfl (by decide) fX7_given lX7_141 dX7_of_180 rfl clsX7 rfl (Nat.le_of_ble_eq_true rfl) ?_
        refine aw_iret K rfl dX7_of_183 ?_
        refine ⟨?_, rfl⟩
        rw [ofV, if_pos hok, if_neg (by rw [s5]; decide), if_neg (by rw [s5]; decide), if_neg (by rw [s5]; decide), if_neg (by rw [s5]; decide), if_neg (by rw [s5]; decide), if_pos (show b.toInt = 5 from s5)]
      · show AW _ _ _ _ _ 184 _ _ _
        refine aw_il3 K dX7_of_184 ?_
        refine aw_iret K rfl dX7_of_185 ?_
        refine ⟨?_, rfl⟩
        rw [ofV, if_pos hok, if_neg (show ¬ b.toInt = 0 by omega), if_neg (show ¬ b.toInt = 1 by omega), if_neg (show ¬ b.toInt = 2 by omega), if_neg (show ¬ b.toInt = 3 by omega), if_neg (show ¬ b.toInt = 4 by omega), if_neg (show ¬ b.toInt = 5 by omega)]
    · exact absurd (Int32.le_refl _) b33
  | succ n ih =>
    intro i k1
    refine aw_il4 K dX7_of_27 ?_
    refine aw_al0 K dX7_of_29 ?_
    refine aw_getI K gX7_121 dX7_of_30 rfl rfl ?_
    rw [H.2.1.1]
    refine aw_icmp_ge (tgt := 81) K dX7_of_33 (by decide) (fun b33 => ?_) (fun b33 => ?_)
    · exact absurd b33 (nI_ge (by omega) (by omega))
    · refine aw_il3 K dX7_of_36 ?_
      refine aw_al0 K dX7_of_37 ?_
      refine aw_getR K gX7_26 dX7_of_38 rfl rfl ?_
      refine aw_il4 K dX7_of_41 ?_
      refine aw_iald K dX7_of_43 rfl (vp_in_nI (by omega) (by decide)) ?_
      rw [nI_clamp (show i < 2 ^ 31 by omega)]
      refine aw_il1 K dX7_of_44 ?_
      refine aw_icmp_eq (tgt := 59) K dX7_of_45 (by decide) (fun b45 => ?_) (fun b45 => ?_)
      · refine aw_al0 K dX7_of_59 ?_
        refine aw_il4 K dX7_of_60 ?_
        refine aw_callV_I K (tX7_roomOf l g sta _ _ (vp_in_nI (by omega) (by decide)) H) rfl (by decide) fX7_roomOf lX7_136 dX7_of_62 rfl clsX7 rfl (Nat.le_of_ble_eq_true rfl) ?_
        rw [nI_clamp (show i < 2 ^ 31 by omega)]
        refine aw_if_le (tgt := 72) K dX7_of_65 (by decide) (fun b65 => ?_) (fun b65 => ?_)
        · refine aw_iconst (v := 0) K dX7_of_72 (by decide) ?_
          refine aw_iadd K dX7_of_73 ?_
          refine aw_is3 K dX7_of_74 (by decide) rfl ?_
          refine aw_ii4 (v := _ + 1) K dX7_of_75 rfl (by decide) rfl ?_
          refine aw_goto (tgt := 27) K dX7_of_78 (by decide) ?_
          rw [nI_1]
          have z := ih (i + 1) (by omega)
          rw [show mnyV h.1 a (i + 1) = mnyV h.1 a i + 0 from congrArg (mnyV h.1 a i + ·) (bI_f (fun q => Int32.not_lt.mpr b65 q.2))] at z
          exact z
        · refine aw_iconst (v := 1) K dX7_of_68 (by decide) ?_
          refine aw_goto (tgt := 73) K dX7_of_69 (by decide) ?_
          refine aw_iadd K dX7_of_73 ?_
          refine aw_is3 K dX7_of_74 (by decide) rfl ?_
          refine aw_ii4 (v := _ + 1) K dX7_of_75 rfl (by decide) rfl ?_
          refine aw_goto (tgt := 27) K dX7_of_78 (by decide) ?_
          rw [nI_1]
          have z := ih (i + 1) (by omega)
          rw [show mnyV h.1 a (i + 1) = mnyV h.1 a i + 1 from congrArg (mnyV h.1 a i + ·) (bI_t ⟨Or.inl b45, Int32.not_le.mp b65⟩)] at z
          exact z
      · refine aw_al0 K dX7_of_48 ?_
        refine aw_getR K gX7_29 dX7_of_49 rfl rfl ?_
        refine aw_il4 K dX7_of_52 ?_
        refine aw_iald K dX7_of_54 rfl (vp_in_nI (by omega) (by decide)) ?_
        rw [nI_clamp (show i < 2 ^ 31 by omega)]
        refine aw_il1 K dX7_of_55 ?_
        refine aw_icmp_ne (tgt := 72) K dX7_of_56 (by decide) (fun b56 => ?_) (fun b56 => ?_)
        · refine aw_iconst (v := 0) K dX7_of_72 (by decide) ?_
          refine aw_iadd K dX7_of_73 ?_
          refine aw_is3 K dX7_of_74 (by decide) rfl ?_
          refine aw_ii4 (v := _ + 1) K dX7_of_75 rfl (by decide) rfl ?_
          refine aw_goto (tgt := 27) K dX7_of_78 (by decide) ?_
          rw [nI_1]
          have z := ih (i + 1) (by omega)
          rw [show mnyV h.1 a (i + 1) = mnyV h.1 a i + 0 from congrArg (mnyV h.1 a i + ·) (bI_f (fun q => q.1.elim b45 b56))] at z
          exact z
        · refine aw_al0 K dX7_of_59 ?_
          refine aw_il4 K dX7_of_60 ?_
          refine aw_callV_I K (tX7_roomOf l g sta _ _ (vp_in_nI (by omega) (by decide)) H) rfl (by decide) fX7_roomOf lX7_136 dX7_of_62 rfl clsX7 rfl (Nat.le_of_ble_eq_true rfl) ?_
          rw [nI_clamp (show i < 2 ^ 31 by omega)]
          refine aw_if_le (tgt := 72) K dX7_of_65 (by decide) (fun b65 => ?_) (fun b65 => ?_)
          · refine aw_iconst (v := 0) K dX7_of_72 (by decide) ?_
            refine aw_iadd K dX7_of_73 ?_
            refine aw_is3 K dX7_of_74 (by decide) rfl ?_
            refine aw_ii4 (v := _ + 1) K dX7_of_75 rfl (by decide) rfl ?_
            refine aw_goto (tgt := 27) K dX7_of_78 (by decide) ?_
            rw [nI_1]
            have z := ih (i + 1) (by omega)
            rw [show mnyV h.1 a (i + 1) = mnyV h.1 a i + 0 from congrArg (mnyV h.1 a i + ·) (bI_f (fun q => Int32.not_lt.mpr b65 q.2))] at z
            exact z
          · refine aw_iconst (v := 1) K dX7_of_68 (by decide) ?_
            refine aw_goto (tgt := 73) K dX7_of_69 (by decide) ?_
            refine aw_iadd K dX7_of_73 ?_
            refine aw_is3 K dX7_of_74 (by decide) rfl ?_
            refine aw_ii4 (v := _ + 1) K dX7_of_75 rfl (by decide) rfl ?_
            refine aw_goto (tgt := 27) K dX7_of_78 (by decide) ?_
            rw [nI_1]
            have z := ih (i + 1) (by omega)
            rw [show mnyV h.1 a (i + 1) = mnyV h.1 a i + 1 from congrArg (mnyV h.1 a i + ·) (bI_t ⟨Or.inr b56, Int32.not_le.mp b65⟩)] at z
            exact z
set_option maxHeartbeats 4000000 in
set_option maxRecDepth 100000 in
theorem tX7_of (l : Launch) (g : Geo) (sta : Nat → Nat) (h : HS) (a b : Int32) {N T Wn : Nat} (H : MW h N T Wn) : CT (wM l g sta) 7 mX7_of [.ref (g.2.1 0), .int a, .int b] h (DI (ofV h.1 a b T) h) := by
  refine CT.at [some (.ref (g.2.1 0)), some (.int a), some (.int b), none, none] 2 rfl (by decide) (Nat.le_of_ble_eq_true rfl) (fun k K => ?_)
  refine aw_al0 K dX7_of_0 ?_
  refine aw_il1 K dX7_of_1 ?_
  refine aw_callV_I K (tX7_isName l g sta _ _) rfl (by decide) fX7_isName lX7_111 dX7_of_2 rfl clsX7 rfl (Nat.le_of_ble_eq_true rfl) ?_
  refine aw_if_eq (tgt := 20) K dX7_of_5 (by decide) (fun b5 => ?_) (fun b5 => ?_)
  · refine aw_iconst (v := (-1)) K dX7_of_20 (by decide) ?_
    refine aw_iret K rfl dX7_of_21 ?_
    refine ⟨?_, rfl⟩
    rw [ofV, if_neg (fun q => bI_0.mp b5 q.1)]
  · refine aw_il2 K dX7_of_8 ?_
    refine aw_i2l K dX7_of_9 ?_
    refine aw_lconst (v := 0) K dX7_of_10 (by decide) ?_
    refine aw_ldc2 K qX7_139 dX7_of_11 ?_
    refine aw_callS_I K (in32 l g sta _ _ (0) (6) (by decide) (by decide)) rfl (by decide) fX7_in lX7_102 dX7_of_14 rfl (Nat.le_of_ble_eq_true rfl) ?_
    refine aw_if_ne (tgt := 22) K dX7_of_17 (by decide) (fun b17 => ?_) (fun b17 => ?_)
    · refine aw_iconst (v := 0) K dX7_of_22 (by decide) ?_
      refine aw_is3 K dX7_of_23 (by decide) rfl ?_
      refine aw_iconst (v := 0) K dX7_of_24 (by decide) ?_
      refine aw_is4 K dX7_of_25 (by decide) rfl ?_
      have ha : vp_in a 12 := inN H.1.1 H.1.2 (by decide) (bI_1.mp b5)
      exact lpX7_of K h a b ha H ⟨bI_1.mp b5, bI_1.mp b17⟩ T 0 (by omega)
    · refine aw_iconst (v := (-1)) K dX7_of_20 (by decide) ?_
      refine aw_iret K rfl dX7_of_21 ?_
      refine ⟨?_, rfl⟩
      rw [ofV, if_neg (fun q => bI_0.mp b17 q.2)]

def wofV (v : Nat → Nat → Int32) (a b : Int32) (Wn : Nat) : Int32 := if (0 ≤ a ∧ a ≤ v 0 27 - 1) ∧ (0 ≤ b ∧ b ≤ 5) then (if b = 0 then v 18 a.toNatClampNeg else if b = 1 then v 19 a.toNatClampNeg else if b = 2 then v 20 a.toNatClampNeg else if b = 3 then v 21 a.toNatClampNeg else if b = 4 then v 22 a.toNatClampNeg else ctV v Wn a.toNatClampNeg) else -1
theorem inNj {a x : Int32} {N : Nat} (hx : x = nI N) (hN : N < 2 ^ 31) (h : 0 ≤ a ∧ a ≤ x - 1) : ∃ j, j < N ∧ a = nI j := vp_in_of (inN hx (Nat.le_refl _) hN h) hN
set_option maxHeartbeats 4000000 in
set_option maxRecDepth 100000 in
theorem tX7_wordOf (l : Launch) (g : Geo) (sta : Nat → Nat) (h : HS) (a0 b : Int32) {N T Wn : Nat} (H : MW h N T Wn) : CT (wM l g sta) 7 mX7_wordOf [.ref (g.2.1 0), .int a0, .int b] h (DI (wofV h.1 a0 b Wn) h) := by
  refine CT.at [some (.ref (g.2.1 0)), some (.int a0), some (.int b)] 0 rfl (by decide) (Nat.le_of_ble_eq_true rfl) (fun k K => ?_)
  refine aw_il1 K dX7_wordOf_0 ?_
  refine aw_i2l K dX7_wordOf_1 ?_
  refine aw_lconst (v := 0) K dX7_wordOf_2 (by decide) ?_
  refine aw_al0 K dX7_wordOf_3 ?_
  refine aw_getI K gX7_235 dX7_wordOf_4 rfl rfl ?_
  refine aw_iconst (v := 1) K dX7_wordOf_7 (by decide) ?_
  refine aw_isub K dX7_wordOf_8 ?_
  refine aw_i2l K dX7_wordOf_9 ?_
  refine aw_callS_I K (in32 l g sta _ _ (0) (h.1 0 27 - 1) (by decide) rfl) rfl (by decide) fX7_in lX7_102 dX7_wordOf_10 rfl (Nat.le_of_ble_eq_true rfl) ?_
  refine aw_if_eq (tgt := 28) K dX7_wordOf_13 (by decide) (fun b13 => ?_) (fun b13 => ?_)
  · refine aw_iconst (v := (-1)) K dX7_wordOf_28 (by decide) ?_
    refine aw_iret K rfl dX7_wordOf_29 ?_
    refine ⟨?_, rfl⟩
    rw [wofV, if_neg (fun q => bI_0.mp b13 q.1)]
  · refine aw_il2 K dX7_wordOf_16 ?_
    refine aw_i2l K dX7_wordOf_17 ?_
    refine aw_lconst (v := 0) K dX7_wordOf_18 (by decide) ?_
    refine aw_ldc2 K qX7_134 dX7_wordOf_19 ?_
    refine aw_callS_I K (in32 l g sta _ _ (0) (5) (by decide) (by decide)) rfl (by decide) fX7_in lX7_102 dX7_wordOf_22 rfl (Nat.le_of_ble_eq_true rfl) ?_
    refine aw_if_ne (tgt := 30) K dX7_wordOf_25 (by decide) (fun b25 => ?_) (fun b25 => ?_)
    · have h3 := H.2.2.1.2
      have hok := And.intro (bI_1.mp b13) (bI_1.mp b25)
      obtain ⟨a, ha2, rfl⟩ := inNj H.2.2.1.1 (by omega) (bI_1.mp b13)
      have ha : vp_in (nI a) 24 := vp_in_nI (by omega) (by decide)
      refine aw_il2 K dX7_wordOf_30 ?_
      refine aw_if_ne (tgt := 43) K dX7_wordOf_31 (by decide) (fun b31 => ?_) (fun b31 => ?_)
      · refine aw_il2 K dX7_wordOf_43 ?_
        refine aw_iconst (v := 1) K dX7_wordOf_44 (by decide) ?_
        refine aw_icmp_ne (tgt := 57) K dX7_wordOf_45 (by decide) (fun b45 => ?_) (fun b45 => ?_)
        · refine aw_il2 K dX7_wordOf_57 ?_
          refine aw_iconst (v := 2) K dX7_wordOf_58 (by decide) ?_
          refine aw_icmp_ne (tgt := 71) K dX7_wordOf_59 (by decide) (fun b59 => ?_) (fun b59 => ?_)
          · refine aw_il2 K dX7_wordOf_71 ?_
            refine aw_iconst (v := 3) K dX7_wordOf_72 (by decide) ?_
            refine aw_icmp_ne (tgt := 85) K dX7_wordOf_73 (by decide) (fun b73 => ?_) (fun b73 => ?_)
            · refine aw_il2 K dX7_wordOf_85 ?_
              refine aw_iconst (v := 4) K dX7_wordOf_86 (by decide) ?_
              refine aw_icmp_ne (tgt := 99) K dX7_wordOf_87 (by decide) (fun b87 => ?_) (fun b87 => ?_)
              · refine aw_al0 K dX7_wordOf_99 ?_
                refine aw_il1 K dX7_wordOf_100 ?_
                refine aw_callV_I K (tX7_counts l g sta _ a (by omega) H ha2) rfl (by decide) fX7_counts lX7_249 dX7_wordOf_101 rfl clsX7 rfl (Nat.le_of_ble_eq_true rfl) ?_
                refine aw_if_eq (tgt := 111) K dX7_wordOf_104 (by decide) (fun b104 => ?_) (fun b104 => ?_)
                · refine aw_iconst (v := 0) K dX7_wordOf_111 (by decide) ?_
                  refine aw_iret K rfl dX7_wordOf_112 ?_
                  refine ⟨?_, rfl⟩
                  rw [wofV, if_pos hok, if_neg b31, if_neg b45, if_neg b59, if_neg b73, if_neg b87, nI_clamp (show a < 2 ^ 31 by omega), b104]
                · refine aw_iconst (v := 1) K dX7_wordOf_107 (by decide) ?_
                  refine aw_goto (tgt := 112) K dX7_wordOf_108 (by decide) ?_
                  refine aw_iret K rfl dX7_wordOf_112 ?_
                  refine ⟨?_, rfl⟩
                  rw [wofV, if_pos hok, if_neg b31, if_neg b45, if_neg b59, if_neg b73, if_neg b87, nI_clamp (show a < 2 ^ 31 by omega), (ctV_01 _ _ _).resolve_right b104]
              · refine aw_al0 K dX7_wordOf_90 ?_
                refine aw_getR K gX7_74 dX7_wordOf_91 rfl rfl ?_
                refine aw_il1 K dX7_wordOf_94 ?_
                refine aw_iald K dX7_wordOf_95 rfl ha ?_
                refine aw_goto (tgt := 112) K dX7_wordOf_96 (by decide) ?_
                refine aw_iret K rfl dX7_wordOf_112 ?_
                refine ⟨?_, rfl⟩
                rw [wofV, if_pos hok, if_neg b31, if_neg b45, if_neg b59, if_neg b73, if_pos b87]
            · refine aw_al0 K dX7_wordOf_76 ?_
              refine aw_getR K gX7_71 dX7_wordOf_77 rfl rfl ?_
              refine aw_il1 K dX7_wordOf_80 ?_
              refine aw_iald K dX7_wordOf_81 rfl ha ?_
              refine aw_goto (tgt := 112) K dX7_wordOf_82 (by decide) ?_
              refine aw_iret K rfl dX7_wordOf_112 ?_
              refine ⟨?_, rfl⟩
              rw [wofV, if_pos hok, if_neg b31, if_neg b45, if_neg b59, if_pos b73]
          · refine aw_al0 K dX7_wordOf_62 ?_
            refine aw_getR K gX7_68 dX7_wordOf_63 rfl rfl ?_
            refine aw_il1 K dX7_wordOf_66 ?_
            refine aw_iald K dX7_wordOf_67 rfl ha ?_
            refine aw_goto (tgt := 112) K dX7_wordOf_68 (by decide) ?_
            refine aw_iret K rfl dX7_wordOf_112 ?_
            refine ⟨?_, rfl⟩
            rw [wofV, if_pos hok, if_neg b31, if_neg b45, if_pos b59]
        · refine aw_al0 K dX7_wordOf_48 ?_
          refine aw_getR K gX7_65 dX7_wordOf_49 rfl rfl ?_
          refine aw_il1 K dX7_wordOf_52 ?_
          refine aw_iald K dX7_wordOf_53 rfl ha ?_
          refine aw_goto (tgt := 112) K dX7_wordOf_54 (by decide) ?_
          refine aw_iret K rfl dX7_wordOf_112 ?_
          refine ⟨?_, rfl⟩
          rw [wofV, if_pos hok, if_neg b31, if_pos b45]
      · refine aw_al0 K dX7_wordOf_34 ?_
        refine aw_getR K gX7_62 dX7_wordOf_35 rfl rfl ?_
        refine aw_il1 K dX7_wordOf_38 ?_
        refine aw_iald K dX7_wordOf_39 rfl ha ?_
        refine aw_goto (tgt := 112) K dX7_wordOf_40 (by decide) ?_
        refine aw_iret K rfl dX7_wordOf_112 ?_
        refine ⟨?_, rfl⟩
        rw [wofV, if_pos hok, if_pos b31]
    · refine aw_iconst (v := (-1)) K dX7_wordOf_28 (by decide) ?_
      refine aw_iret K rfl dX7_wordOf_29 ?_
      refine ⟨?_, rfl⟩
      rw [wofV, if_neg (fun q => bI_0.mp b25 q.2)]

set_option maxHeartbeats 4000000 in
set_option maxRecDepth 100000 in
theorem tX7_sayers (l : Launch) (g : Geo) (sta : Nat → Nat) (h : HS) (b : Int32) {N T Wn : Nat} (H : MW h N T Wn) : CT (wM l g sta) 7 mX7_sayers [.ref (g.2.1 0), .int b] h (DI (if 0 ≤ b ∧ b ≤ h.1 0 0 - 1 then syV h.1 N Wn b else -1) h) := by
  refine CT.at [some (.ref (g.2.1 0)), some (.int b)] 0 rfl (by decide) (Nat.le_of_ble_eq_true rfl) (fun k K => ?_)
  refine aw_al0 K dX7_sayers_0 ?_
  refine aw_il1 K dX7_sayers_1 ?_
  refine aw_callV_I K (tX7_isName l g sta _ _) rfl (by decide) fX7_isName lX7_111 dX7_sayers_2 rfl clsX7 rfl (Nat.le_of_ble_eq_true rfl) ?_
  refine aw_if_eq (tgt := 16) K dX7_sayers_5 (by decide) (fun b5 => ?_) (fun b5 => ?_)
  · refine aw_iconst (v := (-1)) K dX7_sayers_16 (by decide) ?_
    refine aw_iret K rfl dX7_sayers_17 ?_
    exact ⟨congrArg some (congrArg Value.int (if_neg (bI_0.mp b5)).symm), rfl⟩
  · refine aw_al0 K dX7_sayers_8 ?_
    refine aw_il1 K dX7_sayers_9 ?_
    refine aw_callV_I K (tX7_sayersOf l g sta _ _ H) rfl (by decide) fX7_sayersOf lX7_256 dX7_sayers_10 rfl clsX7 rfl (Nat.le_of_ble_eq_true rfl) ?_
    refine aw_goto (tgt := 17) K dX7_sayers_13 (by decide) ?_
    refine aw_iret K rfl dX7_sayers_17 ?_
    exact ⟨congrArg some (congrArg Value.int (if_pos (bI_1.mp b5)).symm), rfl⟩

set_option maxHeartbeats 4000000 in
set_option maxRecDepth 100000 in
theorem tX7_trust (l : Launch) (g : Geo) (sta : Nat → Nat) (h : HS) (a : Int32) {N T Wn : Nat} (H : MW h N T Wn) : CT (wM l g sta) 7 mX7_trust [.ref (g.2.1 0), .int a] h (MSI h) := by
  refine CT.at [some (.ref (g.2.1 0)), some (.int a)] 0 rfl (by decide) (Nat.le_of_ble_eq_true rfl) (fun k K => ?_)
  refine aw_al0 K dX7_trust_0 ?_
  refine aw_il1 K dX7_trust_1 ?_
  refine aw_callV_I K (tX7_isName l g sta _ _) rfl (by decide) fX7_isName lX7_111 dX7_trust_2 rfl clsX7 rfl (Nat.le_of_ble_eq_true rfl) ?_
  refine aw_if_eq (tgt := 18) K dX7_trust_5 (by decide) (fun b5 => ?_) (fun b5 => ?_)
  · refine aw_iconst (v := (-1)) K dX7_trust_18 (by decide) ?_
    refine aw_iret K rfl dX7_trust_19 ?_
    exact ⟨⟨_, rfl⟩, MS.rf⟩
  · refine aw_al0 K dX7_trust_8 ?_
    refine aw_iconst (v := 1) K dX7_trust_9 (by decide) ?_
    refine aw_il1 K dX7_trust_10 ?_
    refine aw_ishl K dX7_trust_11 ?_
    refine aw_callV K (tX7_trustOf l g sta _ _ h H MS.rf) rfl (by decide) fX7_trustOf lX7_220 dX7_trust_12 rfl clsX7 rfl (Nat.le_of_ble_eq_true rfl) (fun o h2 hq => ?_)
    obtain ⟨⟨r, rfl⟩, hx⟩ := hq
    refine (show AW _ _ _ _ _ _ _ (.int r :: _) _ from ?_)
    refine aw_goto (tgt := 19) K dX7_trust_15 (by decide) ?_
    refine aw_iret K rfl dX7_trust_19 ?_
    exact ⟨⟨_, rfl⟩, hx⟩

set_option maxHeartbeats 4000000 in
set_option maxRecDepth 100000 in
theorem tX7_heap (l : Launch) (g : Geo) (sta : Nat → Nat) (h : HS) (a : Int32) {N T Wn : Nat} (H : MW h N T Wn) : CT (wM l g sta) 7 mX7_heap [.ref (g.2.1 0), .int a] h (MSI h) := by
  refine CT.at [some (.ref (g.2.1 0)), some (.int a)] 0 rfl (by decide) (Nat.le_of_ble_eq_true rfl) (fun k K => ?_)
  refine aw_al0 K dX7_heap_0 ?_
  refine aw_il1 K dX7_heap_1 ?_
  refine aw_callV_I K (tX7_areNames l g sta _ _) rfl (by decide) fX7_areNames lX7_223 dX7_heap_2 rfl clsX7 rfl (Nat.le_of_ble_eq_true rfl) ?_
  refine aw_if_eq (tgt := 16) K dX7_heap_5 (by decide) (fun b5 => ?_) (fun b5 => ?_)
  · refine aw_iconst (v := (-1)) K dX7_heap_16 (by decide) ?_
    refine aw_iret K rfl dX7_heap_17 ?_
    exact ⟨⟨_, rfl⟩, MS.rf⟩
  · refine aw_al0 K dX7_heap_8 ?_
    refine aw_il1 K dX7_heap_9 ?_
    refine aw_callV K (tX7_trustOf l g sta _ _ h H MS.rf) rfl (by decide) fX7_trustOf lX7_220 dX7_heap_10 rfl clsX7 rfl (Nat.le_of_ble_eq_true rfl) (fun o h2 hq => ?_)
    obtain ⟨⟨r, rfl⟩, hx⟩ := hq
    refine (show AW _ _ _ _ _ _ _ (.int r :: _) _ from ?_)
    refine aw_goto (tgt := 17) K dX7_heap_13 (by decide) ?_
    refine aw_iret K rfl dX7_heap_17 ?_
    exact ⟨⟨_, rfl⟩, hx⟩

set_option maxHeartbeats 4000000 in
set_option maxRecDepth 100000 in
theorem lp2X7_cut {l : Launch} {g : Geo} {sta : Nat → Nat} {k : KT} (K : AOK (wM l g sta) mX7_cut k) (h0 h : HS) (a b c e : Int32) {N T Wn : Nat} (H : MW h N T Wn) (hx : MS h0 h) :
    ∀ (n i : Nat) (u : Int32), i + n = T → AW (wM l g sta) (MSI h0) 7 mX7_cut k 111 [some (.ref (g.2.1 0)), some (.int a), some (.int b), some (.int c), some (.int e), some (.int u), some (.int (nI i)), none] [] h := by
  intro n
  have h3 := H.2.1.2
  induction n with
  | zero =>
    intro i u k1
    obtain rfl : i = T := by omega
    refine aw_il6 K dX7_cut_111 ?_
    refine aw_al0 K dX7_cut_113 ?_
    refine aw_getI K gX7_121 dX7_cut_114 rfl rfl ?_
    rw [H.2.1.1]
    refine aw_icmp_ge (tgt := 185) K dX7_cut_117 (by decide) (fun b117 => ?_) (fun b117 => ?_)
    · refine aw_il2 K dX7_cut_185 ?_
      refine aw_if_ne (tgt := 193) K dX7_cut_186 (by decide) (fun b186 => ?_) (fun b186 => ?_)
      · refine aw_il2 K dX7_cut_193 ?_
        refine aw_iconst (v := 1) K dX7_cut_194 (by decide) ?_
        refine aw_icmp_ne (tgt := 203) K dX7_cut_195 (by decide) (fun b195 => ?_) (fun b195 => ?_)
        · refine aw_il4 K dX7_cut_203 ?_
          refine aw_iret K rfl dX7_cut_205 ?_
          exact ⟨⟨_, rfl⟩, hx⟩
        · refine aw_il5 K dX7_cut_198 ?_
          refine aw_goto (tgt := 205) K dX7_cut_200 (by decide) ?_
          refine aw_iret K rfl dX7_cut_205 ?_
          exact ⟨⟨_, rfl⟩, hx⟩
      · refine aw_il3 K dX7_cut_189 ?_
        refine aw_goto (tgt := 205) K dX7_cut_190 (by decide) ?_
        refine aw_iret K rfl dX7_cut_205 ?_
        exact ⟨⟨_, rfl⟩, hx⟩
    · exact absurd (Int32.le_refl _) b117
  | succ n ih =>
    intro i u k1
    refine aw_il6 K dX7_cut_111 ?_
    refine aw_al0 K dX7_cut_113 ?_
    refine aw_getI K gX7_121 dX7_cut_114 rfl rfl ?_
    rw [H.2.1.1]
    refine aw_icmp_ge (tgt := 185) K dX7_cut_117 (by decide) (fun b117 => ?_) (fun b117 => ?_)
    · exact absurd b117 (nI_ge (by omega) (by omega))
    · refine aw_il3 K dX7_cut_120 ?_
      refine aw_al0 K dX7_cut_121 ?_
      refine aw_getR K gX7_26 dX7_cut_122 rfl rfl ?_
      refine aw_il6 K dX7_cut_125 ?_
      refine aw_iald K dX7_cut_127 rfl (vp_in_nI (by omega) (by decide)) ?_
      refine aw_ishr K dX7_cut_128 ?_
      refine aw_iconst (v := 1) K dX7_cut_129 (by decide) ?_
      refine aw_iand K dX7_cut_130 ?_
      refine aw_il3 K dX7_cut_131 ?_
      refine aw_al0 K dX7_cut_132 ?_
      refine aw_getR K gX7_29 dX7_cut_133 rfl rfl ?_
      refine aw_il6 K dX7_cut_136 ?_
      refine aw_iald K dX7_cut_138 rfl (vp_in_nI (by omega) (by decide)) ?_
      refine aw_ishr K dX7_cut_139 ?_
      refine aw_iconst (v := 1) K dX7_cut_140 (by decide) ?_
      refine aw_iand K dX7_cut_141 ?_
      refine aw_icmp_eq (tgt := 149) K dX7_cut_142 (by decide) (fun b142 => ?_) (fun b142 => ?_)
      · refine aw_iconst (v := 0) K dX7_cut_149 (by decide) ?_
        refine aw_is7 K dX7_cut_150 (by decide) rfl ?_
        refine aw_il5 K dX7_cut_152 ?_
        refine aw_il7 K dX7_cut_154 ?_
        refine aw_if_eq (tgt := 175) K dX7_cut_156 (by decide) (fun b156 => ?_) (fun b156 => ?_)
        · refine aw_iconst (v := 0) K dX7_cut_175 (by decide) ?_
          refine aw_ior K dX7_cut_176 ?_
          refine aw_is5 K dX7_cut_177 (by decide) rfl ?_
          refine aw_ii6 (v := _ + 1) K dX7_cut_179 rfl (by decide) rfl ?_
          refine aw_goto (tgt := 111) K dX7_cut_182 (by decide) ?_
          rw [nI_1]
          refine aw_sub [some (.ref (g.2.1 0)), some (.int _), some (.int _), some (.int _), some (.int _), some (.int _), some (.int _), none] ⟨rfl, rfl, rfl, rfl, rfl, rfl, rfl, trivial⟩ ?_
          exact ih (i + 1) _ (by omega)
        · refine aw_al0 K dX7_cut_159 ?_
          refine aw_il6 K dX7_cut_160 ?_
          refine aw_callV_I K (tX7_roomOf l g sta _ _ (vp_in_nI (by omega) (by decide)) H) rfl (by decide) fX7_roomOf lX7_136 dX7_cut_162 rfl clsX7 rfl (Nat.le_of_ble_eq_true rfl) ?_
          refine aw_if_le (tgt := 175) K dX7_cut_165 (by decide) (fun b165 => ?_) (fun b165 => ?_)
          · refine aw_iconst (v := 0) K dX7_cut_175 (by decide) ?_
            refine aw_ior K dX7_cut_176 ?_
            refine aw_is5 K dX7_cut_177 (by decide) rfl ?_
            refine aw_ii6 (v := _ + 1) K dX7_cut_179 rfl (by decide) rfl ?_
            refine aw_goto (tgt := 111) K dX7_cut_182 (by decide) ?_
            rw [nI_1]
            refine aw_sub [some (.ref (g.2.1 0)), some (.int _), some (.int _), some (.int _), some (.int _), some (.int _), some (.int _), none] ⟨rfl, rfl, rfl, rfl, rfl, rfl, rfl, trivial⟩ ?_
            exact ih (i + 1) _ (by omega)
          · refine aw_iconst (v := 1) K dX7_cut_168 (by decide) ?_
            refine aw_il6 K dX7_cut_169 ?_
            refine aw_ishl K dX7_cut_171 ?_
            refine aw_goto (tgt := 176) K dX7_cut_172 (by decide) ?_
            refine aw_ior K dX7_cut_176 ?_
            refine aw_is5 K dX7_cut_177 (by decide) rfl ?_
            refine aw_ii6 (v := _ + 1) K dX7_cut_179 rfl (by decide) rfl ?_
            refine aw_goto (tgt := 111) K dX7_cut_182 (by decide) ?_
            rw [nI_1]
            refine aw_sub [some (.ref (g.2.1 0)), some (.int _), some (.int _), some (.int _), some (.int _), some (.int _), some (.int _), none] ⟨rfl, rfl, rfl, rfl, rfl, rfl, rfl, trivial⟩ ?_
            exact ih (i + 1) _ (by omega)
      · refine aw_iconst (v := 1) K dX7_cut_145 (by decide) ?_
        refine aw_goto (tgt := 150) K dX7_cut_146 (by decide) ?_
        refine aw_is7 K dX7_cut_150 (by decide) rfl ?_
        refine aw_il5 K dX7_cut_152 ?_
        refine aw_il7 K dX7_cut_154 ?_
        refine aw_if_eq (tgt := 175) K dX7_cut_156 (by decide) (fun b156 => ?_) (fun b156 => ?_)
        · refine aw_iconst (v := 0) K dX7_cut_175 (by decide) ?_
          refine aw_ior K dX7_cut_176 ?_
          refine aw_is5 K dX7_cut_177 (by decide) rfl ?_
          refine aw_ii6 (v := _ + 1) K dX7_cut_179 rfl (by decide) rfl ?_
          refine aw_goto (tgt := 111) K dX7_cut_182 (by decide) ?_
          rw [nI_1]
          refine aw_sub [some (.ref (g.2.1 0)), some (.int _), some (.int _), some (.int _), some (.int _), some (.int _), some (.int _), none] ⟨rfl, rfl, rfl, rfl, rfl, rfl, rfl, trivial⟩ ?_
          exact ih (i + 1) _ (by omega)
        · refine aw_al0 K dX7_cut_159 ?_
          refine aw_il6 K dX7_cut_160 ?_
          refine aw_callV_I K (tX7_roomOf l g sta _ _ (vp_in_nI (by omega) (by decide)) H) rfl (by decide) fX7_roomOf lX7_136 dX7_cut_162 rfl clsX7 rfl (Nat.le_of_ble_eq_true rfl) ?_
          refine aw_if_le (tgt := 175) K dX7_cut_165 (by decide) (fun b165 => ?_) (fun b165 => ?_)
          · refine aw_iconst (v := 0) K dX7_cut_175 (by decide) ?_
            refine aw_ior K dX7_cut_176 ?_
            refine aw_is5 K dX7_cut_177 (by decide) rfl ?_
            refine aw_ii6 (v := _ + 1) K dX7_cut_179 rfl (by decide) rfl ?_
            refine aw_goto (tgt := 111) K dX7_cut_182 (by decide) ?_
            rw [nI_1]
            refine aw_sub [some (.ref (g.2.1 0)), some (.int _), some (.int _), some (.int _), some (.int _), some (.int _), some (.int _), none] ⟨rfl, rfl, rfl, rfl, rfl, rfl, rfl, trivial⟩ ?_
            exact ih (i + 1) _ (by omega)
          · refine aw_iconst (v := 1) K dX7_cut_168 (by decide) ?_
            refine aw_il6 K dX7_cut_169 ?_
            refine aw_ishl K dX7_cut_171 ?_
            refine aw_goto (tgt := 176) K dX7_cut_172 (by decide) ?_
            refine aw_ior K dX7_cut_176 ?_
            refine aw_is5 K dX7_cut_177 (by decide) rfl ?_
            refine aw_ii6 (v := _ + 1) K dX7_cut_179 rfl (by decide) rfl ?_
            refine aw_goto (tgt := 111) K dX7_cut_182 (by decide) ?_
            rw [nI_1]
            refine aw_sub [some (.ref (g.2.1 0)), some (.int _), some (.int _), some (.int _), some (.int _), some (.int _), some (.int _), none] ⟨rfl, rfl, rfl, rfl, rfl, rfl, rfl, trivial⟩ ?_
            exact ih (i + 1) _ (by omega)
set_option maxHeartbeats 4000000 in
set_option maxRecDepth 100000 in
theorem lp1X7_cut {l : Launch} {g : Geo} {sta : Nat → Nat} {k : KT} (K : AOK (wM l g sta) mX7_cut k) (h0 h : HS) (a b : Int32) {N T Wn : Nat} (H : MW h N T Wn) (hx : MS h0 h) :
    ∀ (n i : Nat) (c e : Int32), i + n = N → AW (wM l g sta) (MSI h0) 7 mX7_cut k 40 [some (.ref (g.2.1 0)), some (.int a), some (.int b), some (.int c), some (.int e), some (.int (nI i)), none, none] [] h := by
  intro n
  have h3 := H.1.2
  induction n with
  | zero =>
    intro i c e k1
    obtain rfl : i = N := by omega
    refine aw_il5 K dX7_cut_40 ?_
    refine aw_al0 K dX7_cut_42 ?_
    refine aw_getI K gX7_98 dX7_cut_43 rfl rfl ?_
    rw [H.1.1]
    refine aw_icmp_ge (tgt := 105) K dX7_cut_46 (by decide) (fun b46 => ?_) (fun b46 => ?_)
    · refine aw_iconst (v := 0) K dX7_cut_105 (by decide) ?_
      refine aw_is5 K dX7_cut_106 (by decide) rfl ?_
      refine aw_iconst (v := 0) K dX7_cut_108 (by decide) ?_
      refine aw_is6 K dX7_cut_109 (by decide) rfl ?_
      exact lp2X7_cut K h0 h a b _ _ H hx T 0 0 (by omega)
    · exact absurd (Int32.le_refl _) b46
  | succ n ih =>
    intro i c e k1
    refine aw_il5 K dX7_cut_40 ?_
    refine aw_al0 K dX7_cut_42 ?_
    refine aw_getI K gX7_98 dX7_cut_43 rfl rfl ?_
    rw [H.1.1]
    refine aw_icmp_ge (tgt := 105) K dX7_cut_46 (by decide) (fun b46 => ?_) (fun b46 => ?_)
    · exact absurd b46 (nI_ge (by omega) (by omega))
    · refine aw_il3 K dX7_cut_49 ?_
      refine aw_al0 K dX7_cut_50 ?_
      refine aw_getR K gX7_56 dX7_cut_51 rfl rfl ?_
      refine aw_il5 K dX7_cut_54 ?_
      refine aw_iald K dX7_cut_56 rfl (vp_in_nI (by omega) (by decide)) ?_
      refine aw_bipush (v := (-4)) K dX7_cut_57 (by decide) ?_
      refine aw_icmp_eq (tgt := 69) K dX7_cut_59 (by decide) (fun b59 => ?_) (fun b59 => ?_)
      · refine aw_iconst (v := 0) K dX7_cut_69 (by decide) ?_
        refine aw_ior K dX7_cut_70 ?_
        refine aw_is3 K dX7_cut_71 (by decide) rfl ?_
        refine aw_il4 K dX7_cut_72 ?_
        refine aw_al0 K dX7_cut_74 ?_
        refine aw_getR K gX7_56 dX7_cut_75 rfl rfl ?_
        refine aw_il5 K dX7_cut_78 ?_
        refine aw_iald K dX7_cut_80 rfl (vp_in_nI (by omega) (by decide)) ?_
        refine aw_bipush (v := (-4)) K dX7_cut_81 (by decide) ?_
        refine aw_icmp_eq (tgt := 90) K dX7_cut_83 (by decide) (fun b83 => ?_) (fun b83 => ?_)
        · refine aw_al0 K dX7_cut_90 ?_
          refine aw_il5 K dX7_cut_91 ?_
          refine aw_callV_I K (tX7_given l g sta _ _ (vp_in_nI (by omega) (by decide))) rfl (by decide) fX7_given lX7_141 dX7_cut_93 rfl clsX7 rfl (Nat.le_of_ble_eq_true rfl) ?_
          refine aw_iadd K dX7_cut_96 ?_
          refine aw_is4 K dX7_cut_97 (by decide) rfl ?_
          refine aw_ii5 (v := _ + 1) K dX7_cut_99 rfl (by decide) rfl ?_
          refine aw_goto (tgt := 40) K dX7_cut_102 (by decide) ?_
          rw [nI_1]
          exact ih (i + 1) _ _ (by omega)
        · refine aw_iconst (v := 0) K dX7_cut_86 (by decide) ?_
          refine aw_goto (tgt := 96) K dX7_cut_87 (by decide) ?_
          refine aw_iadd K dX7_cut_96 ?_
          refine aw_is4 K dX7_cut_97 (by decide) rfl ?_
          refine aw_ii5 (v := _ + 1) K dX7_cut_99 rfl (by decide) rfl ?_
          refine aw_goto (tgt := 40) K dX7_cut_102 (by decide) ?_
          rw [nI_1]
          exact ih (i + 1) _ _ (by omega)
      · refine aw_iconst (v := 1) K dX7_cut_62 (by decide) ?_
        refine aw_il5 K dX7_cut_63 ?_
        refine aw_ishl K dX7_cut_65 ?_
        refine aw_goto (tgt := 70) K dX7_cut_66 (by decide) ?_
        refine aw_ior K dX7_cut_70 ?_
        refine aw_is3 K dX7_cut_71 (by decide) rfl ?_
        refine aw_il4 K dX7_cut_72 ?_
        refine aw_al0 K dX7_cut_74 ?_
        refine aw_getR K gX7_56 dX7_cut_75 rfl rfl ?_
        refine aw_il5 K dX7_cut_78 ?_
        refine aw_iald K dX7_cut_80 rfl (vp_in_nI (by omega) (by decide)) ?_
        refine aw_bipush (v := (-4)) K dX7_cut_81 (by decide) ?_
        refine aw_icmp_eq (tgt := 90) K dX7_cut_83 (by decide) (fun b83 => ?_) (fun b83 => ?_)
        · refine aw_al0 K dX7_cut_90 ?_
          refine aw_il5 K dX7_cut_91 ?_
          refine aw_callV_I K (tX7_given l g sta _ _ (vp_in_nI (by omega) (by decide))) rfl (by decide) fX7_given lX7_141 dX7_cut_93 rfl clsX7 rfl (Nat.le_of_ble_eq_true rfl) ?_
          refine aw_iadd K dX7_cut_96 ?_
          refine aw_is4 K dX7_cut_97 (by decide) rfl ?_
          refine aw_ii5 (v := _ + 1) K dX7_cut_99 rfl (by decide) rfl ?_
          refine aw_goto (tgt := 40) K dX7_cut_102 (by decide) ?_
          rw [nI_1]
          exact ih (i + 1) _ _ (by omega)
        · refine aw_iconst (v := 0) K dX7_cut_86 (by decide) ?_
          refine aw_goto (tgt := 96) K dX7_cut_87 (by decide) ?_
          refine aw_iadd K dX7_cut_96 ?_
          refine aw_is4 K dX7_cut_97 (by decide) rfl ?_
          refine aw_ii5 (v := _ + 1) K dX7_cut_99 rfl (by decide) rfl ?_
          refine aw_goto (tgt := 40) K dX7_cut_102 (by decide) ?_
          rw [nI_1]
          exact ih (i + 1) _ _ (by omega)
set_option maxHeartbeats 4000000 in
set_option maxRecDepth 100000 in
theorem tX7_cut (l : Launch) (g : Geo) (sta : Nat → Nat) (h : HS) (a b : Int32) {N T Wn : Nat} (H : MW h N T Wn) : CT (wM l g sta) 7 mX7_cut [.ref (g.2.1 0), .int a, .int b] h (MSI h) := by
  refine CT.at [some (.ref (g.2.1 0)), some (.int a), some (.int b), none, none, none, none, none] 5 rfl (by decide) (Nat.le_of_ble_eq_true rfl) (fun k K => ?_)
  refine aw_al0 K dX7_cut_0 ?_
  refine aw_il1 K dX7_cut_1 ?_
  refine aw_callV_I K (tX7_areNames l g sta _ _) rfl (by decide) fX7_areNames lX7_223 dX7_cut_2 rfl clsX7 rfl (Nat.le_of_ble_eq_true rfl) ?_
  refine aw_if_eq (tgt := 24) K dX7_cut_5 (by decide) (fun b5 => ?_) (fun b5 => ?_)
  · refine aw_iconst (v := (-1)) K dX7_cut_24 (by decide) ?_
    refine aw_iret K rfl dX7_cut_25 ?_
    exact ⟨⟨_, rfl⟩, MS.rf⟩
  · refine aw_il1 K dX7_cut_8 ?_
    refine aw_if_eq (tgt := 24) K dX7_cut_9 (by decide) (fun b9 => ?_) (fun b9 => ?_)
    · refine aw_iconst (v := (-1)) K dX7_cut_24 (by decide) ?_
      refine aw_iret K rfl dX7_cut_25 ?_
      exact ⟨⟨_, rfl⟩, MS.rf⟩
    · refine aw_il2 K dX7_cut_12 ?_
      refine aw_i2l K dX7_cut_13 ?_
      refine aw_lconst (v := 0) K dX7_cut_14 (by decide) ?_
      refine aw_ldc2 K qX7_226 dX7_cut_15 ?_
      refine aw_callS_I K (in32 l g sta _ _ (0) (2) (by decide) (by decide)) rfl (by decide) fX7_in lX7_102 dX7_cut_18 rfl (Nat.le_of_ble_eq_true rfl) ?_
      refine aw_if_ne (tgt := 26) K dX7_cut_21 (by decide) (fun b21 => ?_) (fun b21 => ?_)
      · refine aw_al0 K dX7_cut_26 ?_
        refine aw_il1 K dX7_cut_27 ?_
        refine aw_callV K (tX7_trustOf l g sta _ _ h H MS.rf) rfl (by decide) fX7_trustOf lX7_220 dX7_cut_28 rfl clsX7 rfl (Nat.le_of_ble_eq_true rfl) (fun o h2 hq => ?_)
        obtain ⟨⟨r, rfl⟩, hx⟩ := hq
        refine (show AW _ _ _ _ _ _ _ (.int r :: _) _ from ?_)
        refine aw_pop K dX7_cut_31 rfl ?_
        refine aw_iconst (v := 0) K dX7_cut_32 (by decide) ?_
        refine aw_is3 K dX7_cut_33 (by decide) rfl ?_
        refine aw_iconst (v := 0) K dX7_cut_34 (by decide) ?_
        refine aw_is4 K dX7_cut_35 (by decide) rfl ?_
        refine aw_iconst (v := 0) K dX7_cut_37 (by decide) ?_
        refine aw_is5 K dX7_cut_38 (by decide) rfl ?_
        exact lp1X7_cut K h _ a b (H.q hx) hx N 0 0 0 (by omega)
      · refine aw_iconst (v := (-1)) K dX7_cut_24 (by decide) ?_
        refine aw_iret K rfl dX7_cut_25 ?_
        exact ⟨⟨_, rfl⟩, MS.rf⟩

