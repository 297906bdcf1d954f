def tofV (v : Nat → Nat → Int32) (a b : Int32) : Int32 := if (0 ≤ a ∧ a ≤ v 0 6 - 1) ∧ (0 ≤ b ∧ b ≤ 5) then (if b = 0 then v 6 a.toNatClampNeg else if b = 1 then v 7 a.toNatClampNeg else if b = 2 then v 8 a.toNatClampNeg else if b = 3 then v 9 a.toNatClampNeg else if b = 4 then v 10 a.toNatClampNeg else rmV v a.toNatClampNeg) else -1
set_option maxHeartbeats 4000000 in
set_option maxRecDepth 100000 in
theorem tX7_tieOf (l : Launch) (g : Geo) (sta : Nat → Nat) (h : HS) (a b : Int32) {N T Wn : Nat} (H : MW h N T Wn) : CT (wM l g sta) 7 mX7_tieOf [.ref (g.2.1 0), .int a, .int b] h (DI (tofV h.1 a b) h) := by
  refine CT.at [some (.ref (g.2.1 0)), some (.int a), some (.int b)] 0 rfl (by decide) (Nat.le_of_ble_eq_true rfl) (fun k K => ?_)
  refine aw_al0 K dX7_tieOf_0 ?_
  refine aw_il1 K dX7_tieOf_1 ?_
  refine aw_callV_I K (tX7_isTie l g sta _ _) rfl (by decide) fX7_isTie lX7_131 dX7_tieOf_2 rfl clsX7 rfl (Nat.le_of_ble_eq_true rfl) ?_
  refine aw_if_eq (tgt := 20) K dX7_tieOf_5 (by decide) (fun b5 => ?_) (fun b5 => ?_)
  · refine aw_iconst (v := (-1)) K dX7_tieOf_20 (by decide) ?_
    refine aw_iret K rfl dX7_tieOf_21 ?_
    refine ⟨?_, rfl⟩
    rw [tofV, if_neg (fun q => bI_0.mp b5 q.1)]
  · refine aw_il2 K dX7_tieOf_8 ?_
    refine aw_i2l K dX7_tieOf_9 ?_
    refine aw_lconst (v := 0) K dX7_tieOf_10 (by decide) ?_
    refine aw_ldc2 K qX7_134 dX7_tieOf_11 ?_
    refine aw_callS_I K (in32 l g sta _ _ (0) (5) (by decide) (by decide)) rfl (by decide) fX7_in lX7_102 dX7_tieOf_14 rfl (Nat.le_of_ble_eq_true rfl) ?_
    refine aw_if_ne (tgt := 22) K dX7_tieOf_17 (by decide) (fun b17 => ?_) (fun b17 => ?_)
    · have ha : vp_in a 24 := inN H.2.1.1 H.2.1.2 (by decide) (bI_1.mp b5)
      refine aw_il2 K dX7_tieOf_22 ?_
      refine aw_if_ne (tgt := 35) K dX7_tieOf_23 (by decide) (fun b23 => ?_) (fun b23 => ?_)
      · refine aw_il2 K dX7_tieOf_35 ?_
        refine aw_iconst (v := 1) K dX7_tieOf_36 (by decide) ?_
        refine aw_icmp_ne (tgt := 49) K dX7_tieOf_37 (by decide) (fun b37 => ?_) (fun b37 => ?_)
        · refine aw_il2 K dX7_tieOf_49 ?_
          refine aw_iconst (v := 2) K dX7_tieOf_50 (by decide) ?_
          refine aw_icmp_ne (tgt := 63) K dX7_tieOf_51 (by decide) (fun b51 => ?_) (fun b51 => ?_)
          · refine aw_il2 K dX7_tieOf_63 ?_
            refine aw_iconst (v := 3) K dX7_tieOf_64 (by decide) ?_
            refine aw_icmp_ne (tgt := 77) K dX7_tieOf_65 (by decide) (fun b65 => ?_) (fun b65 => ?_)
            · refine aw_il2 K dX7_tieOf_77 ?_
              refine aw_iconst (v := 4) K dX7_tieOf_78 (by decide) ?_
              refine aw_icmp_ne (tgt := 91) K dX7_tieOf_79 (by decide) (fun b79 => ?_) (fun b79 => ?_)
              · refine aw_al0 K dX7_tieOf_91 ?_
                refine aw_il1 K dX7_tieOf_92 ?_
                refine aw_callV_I K (tX7_roomOf l g sta _ _ ha H) rfl (by decide) fX7_roomOf lX7_136 dX7_tieOf_93 rfl clsX7 rfl (Nat.le_of_ble_eq_true rfl) ?_
                refine aw_iret K rfl dX7_tieOf_96 ?_
                refine ⟨?_, rfl⟩
                rw [tofV, if_pos ⟨bI_1.mp b5, bI_1.mp b17⟩, if_neg b23, if_neg b37, if_neg b51, if_neg b65, if_neg b79]
              · refine aw_al0 K dX7_tieOf_82 ?_
                refine aw_getR K gX7_38 dX7_tieOf_83 rfl rfl ?_
                refine aw_il1 K dX7_tieOf_86 ?_
                refine aw_iald K dX7_tieOf_87 rfl ha ?_
                refine aw_goto (tgt := 96) K dX7_tieOf_88 (by decide) ?_
                refine aw_iret K rfl dX7_tieOf_96 ?_
                refine ⟨?_, rfl⟩
                rw [tofV, if_pos ⟨bI_1.mp b5, bI_1.mp b17⟩, if_neg b23, if_neg b37, if_neg b51, if_neg b65, if_pos b79]
            · refine aw_al0 K dX7_tieOf_68 ?_
              refine aw_getR K gX7_35 dX7_tieOf_69 rfl rfl ?_
              refine aw_il1 K dX7_tieOf_72 ?_
              refine aw_iald K dX7_tieOf_73 rfl ha ?_
              refine aw_goto (tgt := 96) K dX7_tieOf_74 (by decide) ?_
              refine aw_iret K rfl dX7_tieOf_96 ?_
              refine ⟨?_, rfl⟩
              rw [tofV, if_pos ⟨bI_1.mp b5, bI_1.mp b17⟩, if_neg b23, if_neg b37, if_neg b51, if_pos b65]
          · refine aw_al0 K dX7_tieOf_54 ?_
            refine aw_getR K gX7_32 dX7_tieOf_55 rfl rfl ?_
            refine aw_il1 K dX7_tieOf_58 ?_
            refine aw_iald K dX7_tieOf_59 rfl ha ?_
            refine aw_goto (tgt := 96) K dX7_tieOf_60 (by decide) ?_
            refine aw_iret K rfl dX7_tieOf_96 ?_
            refine ⟨?_, rfl⟩
            rw [tofV, if_pos ⟨bI_1.mp b5, bI_1.mp b17⟩, if_neg b23, if_neg b37, if_pos b51]
        · refine aw_al0 K dX7_tieOf_40 ?_
          refine aw_getR K gX7_29 dX7_tieOf_41 rfl rfl ?_
          refine aw_il1 K dX7_tieOf_44 ?_
          refine aw_iald K dX7_tieOf_45 rfl ha ?_
          refine aw_goto (tgt := 96) K dX7_tieOf_46 (by decide) ?_
          refine aw_iret K rfl dX7_tieOf_96 ?_
          refine ⟨?_, rfl⟩
          rw [tofV, if_pos ⟨bI_1.mp b5, bI_1.mp b17⟩, if_neg b23, if_pos b37]
      · refine aw_al0 K dX7_tieOf_26 ?_
        refine aw_getR K gX7_26 dX7_tieOf_27 rfl rfl ?_
        refine aw_il1 K dX7_tieOf_30 ?_
        refine aw_iald K dX7_tieOf_31 rfl ha ?_
        refine aw_goto (tgt := 96) K dX7_tieOf_32 (by decide) ?_
        refine aw_iret K rfl dX7_tieOf_96 ?_
        refine ⟨?_, rfl⟩
        rw [tofV, if_pos ⟨bI_1.mp b5, bI_1.mp b17⟩, if_pos b23]
    · refine aw_iconst (v := (-1)) K dX7_tieOf_20 (by decide) ?_
      refine aw_iret K rfl dX7_tieOf_21 ?_
      refine ⟨?_, rfl⟩
      rw [tofV, if_neg (fun q => bI_0.mp b17 q.2)]

def mnyV (v : Nat → Nat → Int32) (a : Int32) (T : Nat) : Int32 := sumU (fun t => bI ((v 6 t = a ∨ v 7 t = a) ∧ 0 < rmV v t)) T
def ofV (v : Nat → Nat → Int32) (a b : Int32) (T : Nat) : Int32 := if (0 ≤ a ∧ a ≤ v 0 0 - 1) ∧ (0 ≤ b ∧ b ≤ 6) then (if b.toInt = 0 then v 1 a.toNatClampNeg else if b.toInt = 1 then bI (¬ v 2 a.toNatClampNeg = 0) else if b.toInt = 2 then bI (¬ v 3 a.toNatClampNeg = 0) else if b.toInt = 3 then bI (v 0 12 < v 4 a.toNatClampNeg) else if b.toInt = 4 then v 4 a.toNatClampNeg else if b.toInt = 5 then gvV v a.toNatClampNeg else mnyV v a T) else -1
set_option maxHeartbeats 4000000 in
set_option maxRecDepth 100000 in
theorem lpX7_of {l : Launch} {g : Geo} {sta : Nat → Nat} {k : KT} (K : AOK (wM l g sta) mX7_of k) (h : HS) (a b : Int32) (ha : vp_in a 12) {N T Wn : Nat} (H : MW h N T Wn) (hok : (0 ≤ a ∧ a ≤ h.1 0 0 - 1) ∧ (0 ≤ b ∧ b ≤ 6)) :
    ∀ (n i : Nat), i + n = T → AW (wM l g sta) (DI (ofV h.1 a b T) h) 7 mX7_of k 27 [some (.ref (g.2.1 0)), some (.int a), some (.int b), some (.int (mnyV h.1 a i)), some (.int (nI i))] [] h := by
  intro n
  have h3 := H.2.1.2
  induction n with
  | zero =>
    intro i k1
    obtain rfl : i = T := by omega
    refine aw_il4 K dX7_of_27 ?_
    refine aw_al0 K dX7_of_29 ?_
    refine aw_getI K gX7_121 dX7_of_30 rfl rfl ?_
    rw [H.2.1.1]
    refine aw_icmp_ge (tgt := 81) K dX7_of_33 (by decide) (fun b33 => ?_) (fun b33 => ?_)
    · refine aw_il2 K dX7_of_81 ?_
      refine aw_tsw (tgt := 184) K dX7_of_82 (by decide) (by decide) (by decide) ⟨fun s0 => ?_, fun s1 => ?_, fun s2 => ?_, fun s3 => ?_, fun s4 => ?_, fun s5 => ?_, trivial⟩ (fun sd => ?_)
      · show AW _ _ _ _ _ 120 _ _ _
        refine aw_al0 K dX7_of_120 ?_
        refine aw_getR K gX7_7 dX7_of_121 rfl rfl ?_
        refine aw_il1 K dX7_of_124 ?_
        refine aw_iald K dX7_of_125 rfl ha ?_
        refine aw_iret K rfl dX7_of_126 ?_
        refine ⟨?_, rfl⟩
        rw [ofV, if_pos hok, if_pos (show b.toInt = 0 from s0)]
      · show AW _ _ _ _ _ 127 _ _ _
        refine aw_al0 K dX7_of_127 ?_
        refine aw_getR K gX7_13 dX7_of_128 rfl rfl ?_
        refine aw_il1 K dX7_of_131 ?_
        refine aw_zald K dX7_of_132 rfl ha ?_
        refine aw_if_eq (tgt := 140) K dX7_of_133 (by decide) (fun b133 => ?_) (fun b133 => ?_)
        · refine aw_iconst (v := 0) K dX7_of_140 (by decide) ?_
          refine aw_iret K rfl dX7_of_141 ?_
          refine ⟨?_, rfl⟩
          rw [ofV, if_pos hok, if_neg (by rw [s1]; decide), if_pos (show b.toInt = 1 from s1), bI_f (fun q => q b133)]
        · refine aw_iconst (v := 1) K dX7_of_136 (by decide) ?_
          refine aw_goto (tgt := 141) K dX7_of_137 (by decide) ?_
          refine aw_iret K rfl dX7_of_141 ?_
          refine ⟨?_, rfl⟩
          rw [ofV, if_pos hok, if_neg (by rw [s1]; decide), if_pos (show b.toInt = 1 from s1), bI_t b133]
      · show AW _ _ _ _ _ 142 _ _ _
        refine aw_al0 K dX7_of_142 ?_
        refine aw_getR K gX7_17 dX7_of_143 rfl rfl ?_
        refine aw_il1 K dX7_of_146 ?_
        refine aw_zald K dX7_of_147 rfl ha ?_
        refine aw_if_eq (tgt := 155) K dX7_of_148 (by decide) (fun b148 => ?_) (fun b148 => ?_)
        · refine aw_iconst (v := 0) K dX7_of_155 (by decide) ?_
          refine aw_iret K rfl dX7_of_156 ?_
          refine ⟨?_, rfl⟩
          rw [ofV, if_pos hok, if_neg (by rw [s2]; decide), if_neg (by rw [s2]; decide), if_pos (show b.toInt = 2 from s2), bI_f (fun q => q b148)]
        · refine aw_iconst (v := 1) K dX7_of_151 (by decide) ?_
          refine aw_goto (tgt := 156) K dX7_of_152 (by decide) ?_
          refine aw_iret K rfl dX7_of_156 ?_
          refine ⟨?_, rfl⟩
          rw [ofV, if_pos hok, if_neg (by rw [s2]; decide), if_neg (by rw [s2]; decide), if_pos (show b.toInt = 2 from s2), bI_t b148]
      · show AW _ _ _ _ _ 157 _ _ _
        refine aw_al0 K dX7_of_157 ?_
        refine aw_il1 K dX7_of_158 ?_
        refine aw_callV_I K (tX7_isFined l g sta _ _ ha) rfl (by decide) fX7_isFined lX7_128 dX7_of_159 rfl clsX7 rfl (Nat.le_of_ble_eq_true rfl) ?_
        refine aw_if_eq (tgt := 169) K dX7_of_162 (by decide) (fun b162 => ?_) (fun b162 => ?_)
        · refine aw_iconst (v := 0) K dX7_of_169 (by decide) ?_
          refine aw_iret K rfl dX7_of_170 ?_
          refine ⟨?_, rfl⟩
          rw [ofV, if_pos hok, if_neg (by rw [s3]; decide), if_neg (by rw [s3]; decide), if_neg (by rw [s3]; decide), if_pos (show b.toInt = 3 from s3), b162]
        · refine aw_iconst (v := 1) K dX7_of_165 (by decide) ?_
          refine aw_goto (tgt := 170) K dX7_of_166 (by decide) ?_
          refine aw_iret K rfl dX7_of_170 ?_
          refine ⟨?_, rfl⟩
          rw [ofV, if_pos hok, if_neg (by rw [s3]; decide), if_neg (by rw [s3]; decide), if_neg (by rw [s3]; decide), if_pos (show b.toInt = 3 from s3), bI_t (bI_1.mp b162)]
      · show AW _ _ _ _ _ 171 _ _ _
        refine aw_al0 K dX7_of_171 ?_
        refine aw_getR K gX7_20 dX7_of_172 rfl rfl ?_
        refine aw_il1 K dX7_of_175 ?_
        refine aw_iald K dX7_of_176 rfl ha ?_
        refine aw_iret K rfl dX7_of_177 ?_
        refine ⟨?_, rfl⟩
        rw [ofV, if_pos hok, if_neg (by rw [s4]; decide), if_neg (by rw [s4]; decide), if_neg (by rw [s4]; decide), if_neg (by rw [s4]; decide), if_pos (show b.toInt = 4 from s4)]
      · show AW _ _ _ _ _ 178 _ _ _
        refine aw_al0 K dX7_of_178 ?_
        refine aw_il1 K dX7_of_179 ?_
        refine aw_callV_I K (tX7_given l g sta _ _ ha) rfl (by decide) fX7_given lX7_141 dX7_of_180 rfl clsX7 rfl (Nat.le_of_ble_eq_true rfl) ?_
        refine aw_iret K rfl dX7_of_183 ?_
        refine ⟨?_, rfl⟩
        rw [ofV, if_pos hok, if_neg (by rw [s5]; decide), if_neg (by rw [s5]; decide), if_neg (by rw [s5]; decide), if_neg (by rw [s5]; decide), if_neg (by rw [s5]; decide), if_pos (show b.toInt = 5 from s5)]
      · show AW _ _ _ _ _ 184 _ _ _
        refine aw_il3 K dX7_of_184 ?_
        refine aw_iret K rfl dX7_of_185 ?_
        refine ⟨?_, rfl⟩
        rw [ofV, if_pos hok, if_neg (show ¬ b.toInt = 0 by omega), if_neg (show ¬ b.toInt = 1 by omega), if_neg (show ¬ b.toInt = 2 by omega), if_neg (show ¬ b.toInt = 3 by omega), if_neg (show ¬ b.toInt = 4 by omega), if_neg (show ¬ b.toInt = 5 by omega)]
    · exact absurd (Int32.le_refl _) b33
  | succ n ih =>
    intro i k1
    refine aw_il4 K dX7_of_27 ?_
    refine aw_al0 K dX7_of_29 ?_
    refine aw_getI K gX7_121 dX7_of_30 rfl rfl ?_
    rw [H.2.1.1]
    refine aw_icmp_ge (tgt := 81) K dX7_of_33 (by decide) (fun b33 => ?_) (fun b33 => ?_)
    · exact absurd b33 (nI_ge (by omega) (by omega))
    · refine aw_il3 K dX7_of_36 ?_
      refine aw_al0 K dX7_of_37 ?_
      refine aw_getR K gX7_26 dX7_of_38 rfl rfl ?_
      refine aw_il4 K dX7_of_41 ?_
      refine aw_iald K dX7_of_43 rfl (vp_in_nI (by omega) (by decide)) ?_
      rw [nI_clamp (show i < 2 ^ 31 by omega)]
      refine aw_il1 K dX7_of_44 ?_
      refine aw_icmp_eq (tgt := 59) K dX7_of_45 (by decide) (fun b45 => ?_) (fun b45 => ?_)
      · refine aw_al0 K dX7_of_59 ?_
        refine aw_il4 K dX7_of_60 ?_
        refine aw_callV_I K (tX7_roomOf l g sta _ _ (vp_in_nI (by omega) (by decide)) H) rfl (by decide) fX7_roomOf lX7_136 dX7_of_62 rfl clsX7 rfl (Nat.le_of_ble_eq_true rfl) ?_
        rw [nI_clamp (show i < 2 ^ 31 by omega)]
        refine aw_if_le (tgt := 72) K dX7_of_65 (by decide) (fun b65 => ?_) (fun b65 => ?_)
        · refine aw_iconst (v := 0) K dX7_of_72 (by decide) ?_
          refine aw_iadd K dX7_of_73 ?_
          refine aw_is3 K dX7_of_74 (by decide) rfl ?_
          refine aw_ii4 (v := _ + 1) K dX7_of_75 rfl (by decide) rfl ?_
          refine aw_goto (tgt := 27) K dX7_of_78 (by decide) ?_
          rw [nI_1]
          have z := ih (i + 1) (by omega)
          rw [show mnyV h.1 a (i + 1) = mnyV h.1 a i + 0 from congrArg (mnyV h.1 a i + ·) (bI_f (fun q => Int32.not_lt.mpr b65 q.2))] at z
          exact z
        · refine aw_iconst (v := 1) K dX7_of_68 (by decide) ?_
          refine aw_goto (tgt := 73) K dX7_of_69 (by decide) ?_
          refine aw_iadd K dX7_of_73 ?_
          refine aw_is3 K dX7_of_74 (by decide) rfl ?_
          refine aw_ii4 (v := _ + 1) K dX7_of_75 rfl (by decide) rfl ?_
          refine aw_goto (tgt := 27) K dX7_of_78 (by decide) ?_
          rw [nI_1]
          have z := ih (i + 1) (by omega)
          rw [show mnyV h.1 a (i + 1) = mnyV h.1 a i + 1 from congrArg (mnyV h.1 a i + ·) (bI_t ⟨Or.inl b45, Int32.not_le.mp b65⟩)] at z
          exact z
      · refine aw_al0 K dX7_of_48 ?_
        refine aw_getR K gX7_29 dX7_of_49 rfl rfl ?_
        refine aw_il4 K dX7_of_52 ?_
        refine aw_iald K dX7_of_54 rfl (vp_in_nI (by omega) (by decide)) ?_
        rw [nI_clamp (show i < 2 ^ 31 by omega)]
        refine aw_il1 K dX7_of_55 ?_
        refine aw_icmp_ne (tgt := 72) K dX7_of_56 (by decide) (fun b56 => ?_) (fun b56 => ?_)
        · refine aw_iconst (v := 0) K dX7_of_72 (by decide) ?_
          refine aw_iadd K dX7_of_73 ?_
          refine aw_is3 K dX7_of_74 (by decide) rfl ?_
          refine aw_ii4 (v := _ + 1) K dX7_of_75 rfl (by decide) rfl ?_
          refine aw_goto (tgt := 27) K dX7_of_78 (by decide) ?_
          rw [nI_1]
          have z := ih (i + 1) (by omega)
          rw [show mnyV h.1 a (i + 1) = mnyV h.1 a i + 0 from congrArg (mnyV h.1 a i + ·) (bI_f (fun q => q.1.elim b45 b56))] at z
          exact z
        · refine aw_al0 K dX7_of_59 ?_
          refine aw_il4 K dX7_of_60 ?_
          refine aw_callV_I K (tX7_roomOf l g sta _ _ (vp_in_nI (by omega) (by decide)) H) rfl (by decide) fX7_roomOf lX7_136 dX7_of_62 rfl clsX7 rfl (Nat.le_of_ble_eq_true rfl) ?_
          rw [nI_clamp (show i < 2 ^ 31 by omega)]
          refine aw_if_le (tgt := 72) K dX7_of_65 (by decide) (fun b65 => ?_) (fun b65 => ?_)
          · refine aw_iconst (v := 0) K dX7_of_72 (by decide) ?_
            refine aw_iadd K dX7_of_73 ?_
            refine aw_is3 K dX7_of_74 (by decide) rfl ?_
            refine aw_ii4 (v := _ + 1) K dX7_of_75 rfl (by decide) rfl ?_
            refine aw_goto (tgt := 27) K dX7_of_78 (by decide) ?_
            rw [nI_1]
            have z := ih (i + 1) (by omega)
            rw [show mnyV h.1 a (i + 1) = mnyV h.1 a i + 0 from congrArg (mnyV h.1 a i + ·) (bI_f (fun q => Int32.not_lt.mpr b65 q.2))] at z
            exact z
          · refine aw_iconst (v := 1) K dX7_of_68 (by decide) ?_
            refine aw_goto (tgt := 73) K dX7_of_69 (by decide) ?_
            refine aw_iadd K dX7_of_73 ?_
            refine aw_is3 K dX7_of_74 (by decide) rfl ?_
            refine aw_ii4 (v := _ + 1) K dX7_of_75 rfl (by decide) rfl ?_
            refine aw_goto (tgt := 27) K dX7_of_78 (by decide) ?_
            rw [nI_1]
            have z := ih (i + 1) (by omega)
            rw [show mnyV h.1 a (i + 1) = mnyV h.1 a i + 1 from congrArg (mnyV h.1 a i + ·) (bI_t ⟨Or.inr b56, Int32.not_le.mp b65⟩)] at z
            exact z
set_option maxHeartbeats 4000000 in
set_option maxRecDepth 100000 in
theorem tX7_of (l : Launch) (g : Geo) (sta : Nat → Nat) (h : HS) (a b : Int32) {N T Wn : Nat} (H : MW h N T Wn) : CT (wM l g sta) 7 mX7_of [.ref (g.2.1 0), .int a, .int b] h (DI (ofV h.1 a b T) h) := by
  refine CT.at [some (.ref (g.2.1 0)), some (.int a), some (.int b), none, none] 2 rfl (by decide) (Nat.le_of_ble_eq_true rfl) (fun k K => ?_)
  refine aw_al0 K dX7_of_0 ?_
  refine aw_il1 K dX7_of_1 ?_
  refine aw_callV_I K (tX7_isName l g sta _ _) rfl (by decide) fX7_isName lX7_111 dX7_of_2 rfl clsX7 rfl (Nat.le_of_ble_eq_true rfl) ?_
  refine aw_if_eq (tgt := 20) K dX7_of_5 (by decide) (fun b5 => ?_) (fun b5 => ?_)
  · refine aw_iconst (v := (-1)) K dX7_of_20 (by decide) ?_
    refine aw_iret K rfl dX7_of_21 ?_
    refine ⟨?_, rfl⟩
    rw [ofV, if_neg (fun q => bI_0.mp b5 q.1)]
  · refine aw_il2 K dX7_of_8 ?_
    refine aw_i2l K dX7_of_9 ?_
    refine aw_lconst (v := 0) K dX7_of_10 (by decide) ?_
    refine aw_ldc2 K qX7_139 dX7_of_11 ?_
    refine aw_callS_I K (in32 l g sta _ _ (0) (6) (by decide) (by decide)) rfl (by decide) fX7_in lX7_102 dX7_of_14 rfl (Nat.le_of_ble_eq_true rfl) ?_
    refine aw_if_ne (tgt := 22) K dX7_of_17 (by decide) (fun b17 => ?_) (fun b17 => ?_)
    · refine aw_iconst (v := 0) K dX7_of_22 (by decide) ?_
      refine aw_is3 K dX7_of_23 (by decide) rfl ?_
      refine aw_iconst (v := 0) K dX7_of_24 (by decide) ?_
      refine aw_is4 K dX7_of_25 (by decide) rfl ?_
      have ha : vp_in a 12 := inN H.1.1 H.1.2 (by decide) (bI_1.mp b5)
      exact lpX7_of K h a b ha H ⟨bI_1.mp b5, bI_1.mp b17⟩ T 0 (by omega)
    · refine aw_iconst (v := (-1)) K dX7_of_20 (by decide) ?_
      refine aw_iret K rfl dX7_of_21 ?_
      refine ⟨?_, rfl⟩
      rw [ofV, if_neg (fun q => bI_0.mp b17 q.2)]

def wofV (v : Nat → Nat → Int32) (a b : Int32) (Wn : Nat) : Int32 := if (0 ≤ a ∧ a ≤ v 0 27 - 1) ∧ (0 ≤ b ∧ b ≤ 5) then (if b = 0 then v 18 a.toNatClampNeg else if b = 1 then v 19 a.toNatClampNeg else if b = 2 then v 20 a.toNatClampNeg else if b = 3 then v 21 a.toNatClampNeg else if b = 4 then v 22 a.toNatClampNeg else ctV v Wn a.toNatClampNeg) else -1
theorem inNj {a x : Int32} {N : Nat} (hx : x = nI N) (hN : N < 2 ^ 31) (h : 0 ≤ a ∧ a ≤ x - 1) : ∃ j, j < N ∧ a = nI j := vp_in_of (inN hx (Nat.le_refl _) hN h) hN
set_option maxHeartbeats 4000000 in
set_option maxRecDepth 100000 in
theorem tX7_wordOf (l : Launch) (g : Geo) (sta : Nat → Nat) (h : HS) (a0 b : Int32) {N T Wn : Nat} (H : MW h N T Wn) : CT (wM l g sta) 7 mX7_wordOf [.ref (g.2.1 0), .int a0, .int b] h (DI (wofV h.1 a0 b Wn) h) := by
  refine CT.at [some (.ref (g.2.1 0)), some (.int a0), some (.int b)] 0 rfl (by decide) (Nat.le_of_ble_eq_true rfl) (fun k K => ?_)
  refine aw_il1 K dX7_wordOf_0 ?_
  refine aw_i2l K dX7_wordOf_1 ?_
  refine aw_lconst (v := 0) K dX7_wordOf_2 (by decide) ?_
  refine aw_al0 K dX7_wordOf_3 ?_
  refine aw_getI K gX7_235 dX7_wordOf_4 rfl rfl ?_
  refine aw_iconst (v := 1) K dX7_wordOf_7 (by decide) ?_
  refine aw_isub K dX7_wordOf_8 ?_
  refine aw_i2l K dX7_wordOf_9 ?_
  refine aw_callS_I K (in32 l g sta _ _ (0) (h.1 0 27 - 1) (by decide) rfl) rfl (by decide) fX7_in lX7_102 dX7_wordOf_10 rfl (Nat.le_of_ble_eq_true rfl) ?_
  refine aw_if_eq (tgt := 28) K dX7_wordOf_13 (by decide) (fun b13 => ?_) (fun b13 => ?_)
  · refine aw_iconst (v := (-1)) K dX7_wordOf_28 (by decide) ?_
    refine aw_iret K rfl dX7_wordOf_29 ?_
    refine ⟨?_, rfl⟩
    rw [wofV, if_neg (fun q => bI_0.mp b13 q.1)]
  · refine aw_il2 K dX7_wordOf_16 ?_
    refine aw_i2l K dX7_wordOf_17 ?_
    refine aw_lconst (v := 0) K dX7_wordOf_18 (by decide) ?_
    refine aw_ldc2 K qX7_134 dX7_wordOf_19 ?_
    refine aw_callS_I K (in32 l g sta _ _ (0) (5) (by decide) (by decide)) rfl (by decide) fX7_in lX7_102 dX7_wordOf_22 rfl (Nat.le_of_ble_eq_true rfl) ?_
    refine aw_if_ne (tgt := 30) K dX7_wordOf_25 (by decide) (fun b25 => ?_) (fun b25 => ?_)
    · have h3 := H.2.2.1.2
      have hok := And.intro (bI_1.mp b13) (bI_1.mp b25)
      obtain ⟨a, ha2, rfl⟩ := inNj H.2.2.1.1 (by omega) (bI_1.mp b13)
      have ha : vp_in (nI a) 24 := vp_in_nI (by omega) (by decide)
      refine aw_il2 K dX7_wordOf_30 ?_
      refine aw_if_ne (tgt := 43) K dX7_wordOf_31 (by decide) (fun b31 => ?_) (fun b31 => ?_)
      · refine aw_il2 K dX7_wordOf_43 ?_
        refine aw_iconst (v := 1) K dX7_wordOf_44 (by decide) ?_
        refine aw_icmp_ne (tgt := 57) K dX7_wordOf_45 (by decide) (fun b45 => ?_) (fun b45 => ?_)
        · refine aw_il2 K dX7_wordOf_57 ?_
          refine aw_iconst (v := 2) K dX7_wordOf_58 (by decide) ?_
          refine aw_icmp_ne (tgt := 71) K dX7_wordOf_59 (by decide) (fun b59 => ?_) (fun b59 => ?_)
          · refine aw_il2 K dX7_wordOf_71 ?_
            refine aw_iconst (v := 3) K dX7_wordOf_72 (by decide) ?_
            refine aw_icmp_ne (tgt := 85) K dX7_wordOf_73 (by decide) (fun b73 => ?_) (fun b73 => ?_)
            · refine aw_il2 K dX7_wordOf_85 ?_
              refine aw_iconst (v := 4) K dX7_wordOf_86 (by decide) ?_
              refine aw_icmp_ne (tgt := 99) K dX7_wordOf_87 (by decide) (fun b87 => ?_) (fun b87 => ?_)
              · refine aw_al0 K dX7_wordOf_99 ?_
                refine aw_il1 K dX7_wordOf_100 ?_
                refine aw_callV_I K (tX7_counts l g sta _ a (by omega) H ha2) rfl (by decide) fX7_counts lX7_249 dX7_wordOf_101 rfl clsX7 rfl (Nat.le_of_ble_eq_true rfl) ?_
                refine aw_if_eq (tgt := 111) K dX7_wordOf_104 (by decide) (fun b104 => ?_) (fun b104 => ?_)
                · refine aw_iconst (v := 0) K dX7_wordOf_111 (by decide) ?_
                  refine aw_iret K rfl dX7_wordOf_112 ?_
                  refine ⟨?_, rfl⟩
                  rw [wofV, if_pos hok, if_neg b31, if_neg b45, if_neg b59, if_neg b73, if_neg b87, nI_clamp (show a < 2 ^ 31 by omega), b104]
                · refine aw_iconst (v := 1) K dX7_wordOf_107 (by decide) ?_
                  refine aw_goto (tgt := 112) K dX7_wordOf_108 (by decide) ?_
                  refine aw_iret K rfl dX7_wordOf_112 ?_
                  refine ⟨?_, rfl⟩
                  rw [wofV, if_pos hok, if_neg b31, if_neg b45, if_neg b59, if_neg b73, if_neg b87, nI_clamp (show a < 2 ^ 31 by omega), (ctV_01 _ _ _).resolve_right b104]
              · refine aw_al0 K dX7_wordOf_90 ?_
                refine aw_getR K gX7_74 dX7_wordOf_91 rfl rfl ?_
                refine aw_il1 K dX7_wordOf_94 ?_
                refine aw_iald K dX7_wordOf_95 rfl ha ?_
                refine aw_goto (tgt := 112) K dX7_wordOf_96 (by decide) ?_
                refine aw_iret K rfl dX7_wordOf_112 ?_
                refine ⟨?_, rfl⟩
                rw [wofV, if_pos hok, if_neg b31, if_neg b45, if_neg b59, if_neg b73, if_pos b87]
            · refine aw_al0 K dX7_wordOf_76 ?_
              refine aw_getR K gX7_71 dX7_wordOf_77 rfl rfl ?_
              refine aw_il1 K dX7_wordOf_80 ?_
              refine aw_iald K dX7_wordOf_81 rfl ha ?_
              refine aw_goto (tgt := 112) K dX7_wordOf_82 (by decide) ?_
              refine aw_iret K rfl dX7_wordOf_112 ?_
              refine ⟨?_, rfl⟩
              rw [wofV, if_pos hok, if_neg b31, if_neg b45, if_neg b59, if_pos b73]
          · refine aw_al0 K dX7_wordOf_62 ?_
            refine aw_getR K gX7_68 dX7_wordOf_63 rfl rfl ?_
            refine aw_il1 K dX7_wordOf_66 ?_
            refine aw_iald K dX7_wordOf_67 rfl ha ?_
            refine aw_goto (tgt := 112) K dX7_wordOf_68 (by decide) ?_
            refine aw_iret K rfl dX7_wordOf_112 ?_
            refine ⟨?_, rfl⟩
            rw [wofV, if_pos hok, if_neg b31, if_neg b45, if_pos b59]
        · refine aw_al0 K dX7_wordOf_48 ?_
          refine aw_getR K gX7_65 dX7_wordOf_49 rfl rfl ?_
          refine aw_il1 K dX7_wordOf_52 ?_
          refine aw_iald K dX7_wordOf_53 rfl ha ?_
          refine aw_goto (tgt := 112) K dX7_wordOf_54 (by decide) ?_
          refine aw_iret K rfl dX7_wordOf_112 ?_
          refine ⟨?_, rfl⟩
          rw [wofV, if_pos hok, if_neg b31, if_pos b45]
      · refine aw_al0 K dX7_wordOf_34 ?_
        refine aw_getR K gX7_62 dX7_wordOf_35 rfl rfl ?_
        refine aw_il1 K dX7_wordOf_38 ?_
        refine aw_iald K dX7_wordOf_39 rfl ha ?_
        refine aw_goto (tgt := 112) K dX7_wordOf_40 (by decide) ?_
        refine aw_iret K rfl dX7_wordOf_112 ?_
        refine ⟨?_, rfl⟩
        rw [wofV, if_pos hok, if_pos b31]
    · refine aw_iconst (v := (-1)) K dX7_wordOf_28 (by decide) ?_
      refine aw_iret K rfl dX7_wordOf_29 ?_
      refine ⟨?_, rfl⟩
      rw [wofV, if_neg (fun q => bI_0.mp b25 q.2)]

set_option maxHeartbeats 4000000 in
set_option maxRecDepth 100000 in
theorem tX7_sayers (l : Launch) (g : Geo) (sta : Nat → Nat) (h : HS) (b : Int32) {N T Wn : Nat} (H : MW h N T Wn) : CT (wM l g sta) 7 mX7_sayers [.ref (g.2.1 0), .int b] h (DI (if 0 ≤ b ∧ b ≤ h.1 0 0 - 1 then syV h.1 N Wn b else -1) h) := by
  refine CT.at [some (.ref (g.2.1 0)), some (.int b)] 0 rfl (by decide) (Nat.le_of_ble_eq_true rfl) (fun k K => ?_)
  refine aw_al0 K dX7_sayers_0 ?_
  refine aw_il1 K dX7_sayers_1 ?_
  refine aw_callV_I K (tX7_isName l g sta _ _) rfl (by decide) fX7_isName lX7_111 dX7_sayers_2 rfl clsX7 rfl (Nat.le_of_ble_eq_true rfl) ?_
  refine aw_if_eq (tgt := 16) K dX7_sayers_5 (by decide) (fun b5 => ?_) (fun b5 => ?_)
  · refine aw_iconst (v := (-1)) K dX7_sayers_16 (by decide) ?_
    refine aw_iret K rfl dX7_sayers_17 ?_
    exact ⟨congrArg some (congrArg Value.int (if_neg (bI_0.mp b5)).symm), rfl⟩
  · refine aw_al0 K dX7_sayers_8 ?_
    refine aw_il1 K dX7_sayers_9 ?_
    refine aw_callV_I K (tX7_sayersOf l g sta _ _ H) rfl (by decide) fX7_sayersOf lX7_256 dX7_sayers_10 rfl clsX7 rfl (Nat.le_of_ble_eq_true rfl) ?_
    refine aw_goto (tgt := 17) K dX7_sayers_13 (by decide) ?_
    refine aw_iret K rfl dX7_sayers_17 ?_
    exact ⟨congrArg some (congrArg Value.int (if_pos (bI_1.mp b5)).symm), rfl⟩

set_option maxHeartbeats 4000000 in
set_option maxRecDepth 100000 in
theorem tX7_trust (l : Launch) (g : Geo) (sta : Nat → Nat) (h : HS) (a : Int32) {N T Wn : Nat} (H : MW h N T Wn) : CT (wM l g sta) 7 mX7_trust [.ref (g.2.1 0), .int a] h (MSI h) := by
  refine CT.at [some (.ref (g.2.1 0)), some (.int a)] 0 rfl (by decide) (Nat.le_of_ble_eq_true rfl) (fun k K => ?_)
  refine aw_al0 K dX7_trust_0 ?_
  refine aw_il1 K dX7_trust_1 ?_
  refine aw_callV_I K (tX7_isName l g sta _ _) rfl (by decide) fX7_isName lX7_111 dX7_trust_2 rfl clsX7 rfl (Nat.le_of_ble_eq_true rfl) ?_
  refine aw_if_eq (tgt := 18) K dX7_trust_5 (by decide) (fun b5 => ?_) (fun b5 => ?_)
  · refine aw_iconst (v := (-1)) K dX7_trust_18 (by decide) ?_
    refine aw_iret K rfl dX7_trust_19 ?_
    exact ⟨⟨_, rfl⟩, MS.rf⟩
  · refine aw_al0 K dX7_trust_8 ?_
    refine aw_iconst (v := 1) K dX7_trust_9 (by decide) ?_
    refine aw_il1 K dX7_trust_10 ?_
    refine aw_ishl K dX7_trust_11 ?_
    refine aw_callV K (tX7_trustOf l g sta _ _ h H MS.rf) rfl (by decide) fX7_trustOf lX7_220 dX7_trust_12 rfl clsX7 rfl (Nat.le_of_ble_eq_true rfl) (fun o h2 hq => ?_)
    obtain ⟨⟨r, rfl⟩, hx⟩ := hq
    refine (show AW _ _ _ _ _ _ _ (.int r :: _) _ from ?_)
    refine aw_goto (tgt := 19) K dX7_trust_15 (by decide) ?_
    refine aw_iret K rfl dX7_trust_19 ?_
    exact ⟨⟨_, rfl⟩, hx⟩

set_option maxHeartbeats 4000000 in
set_option maxRecDepth 100000 in
theorem tX7_heap (l : Launch) (g : Geo) (sta : Nat → Nat) (h : HS) (a : Int32) {N T Wn : Nat} (H : MW h N T Wn) : CT (wM l g sta) 7 mX7_heap [.ref (g.2.1 0), .int a] h (MSI h) := by
  refine CT.at [some (.ref (g.2.1 0)), some (.int a)] 0 rfl (by decide) (Nat.le_of_ble_eq_true rfl) (fun k K => ?_)
  refine aw_al0 K dX7_heap_0 ?_
  refine aw_il1 K dX7_heap_1 ?_
  refine aw_callV_I K (tX7_areNames l g sta _ _) rfl (by decide) fX7_areNames lX7_223 dX7_heap_2 rfl clsX7 rfl (Nat.le_of_ble_eq_true rfl) ?_
  refine aw_if_eq (tgt := 16) K dX7_heap_5 (by decide) (fun b5 => ?_) (fun b5 => ?_)
  · refine aw_iconst (v := (-1)) K dX7_heap_16 (by decide) ?_
    refine aw_iret K rfl dX7_heap_17 ?_
    exact ⟨⟨_, rfl⟩, MS.rf⟩
  · refine aw_al0 K dX7_heap_8 ?_
    refine aw_il1 K dX7_heap_9 ?_
    refine aw_callV K (tX7_trustOf l g sta _ _ h H MS.rf) rfl (by decide) fX7_trustOf lX7_220 dX7_heap_10 rfl clsX7 rfl (Nat.le_of_ble_eq_true rfl) (fun o h2 hq => ?_)
    obtain ⟨⟨r, rfl⟩, hx⟩ := hq
    refine (show AW _ _ _ _ _ _ _ (.int r :: _) _ from ?_)
    refine aw_goto (tgt := 17) K dX7_heap_13 (by decide) ?_
    refine aw_iret K rfl dX7_heap_17 ?_
    exact ⟨⟨_, rfl⟩, hx⟩

set_option maxHeartbeats 4000000 in
set_option maxRecDepth 100000 in
theorem lp2X7_cut {l : Launch} {g : Geo} {sta : Nat → Nat} {k : KT} (K : AOK (wM l g sta) mX7_cut k) (h0 h : HS) (a b c e : Int32) {N T Wn : Nat} (H : MW h N T Wn) (hx : MS h0 h) :
    ∀ (n i : Nat) (u : Int32), i + n = T → AW (wM l g sta) (MSI h0) 7 mX7_cut k 111 [some (.ref (g.2.1 0)), some (.int a), some (.int b), some (.int c), some (.int e), some (.int u), some (.int (nI i)), none] [] h := by
  intro n
  have h3 := H.2.1.2
  induction n with
  | zero =>
    intro i u k1
    obtain rfl : i = T := by omega
    refine aw_il6 K dX7_cut_111 ?_
    refine aw_al0 K dX7_cut_113 ?_
    refine aw_getI K gX7_121 dX7_cut_114 rfl rfl ?_
    rw [H.2.1.1]
    refine aw_icmp_ge (tgt := 185) K dX7_cut_117 (by decide) (fun b117 => ?_) (fun b117 => ?_)
    · refine aw_il2 K dX7_cut_185 ?_
      refine aw_if_ne (tgt := 193) K dX7_cut_186 (by decide) (fun b186 => ?_) (fun b186 => ?_)
      · refine aw_il2 K dX7_cut_193 ?_
        refine aw_iconst (v := 1) K dX7_cut_194 (by decide) ?_
        refine aw_icmp_ne (tgt := 203) K dX7_cut_195 (by decide) (fun b195 => ?_) (fun b195 => ?_)
        · refine aw_il4 K dX7_cut_203 ?_
          refine aw_iret K rfl dX7_cut_205 ?_
          exact ⟨⟨_, rfl⟩, hx⟩
        · refine aw_il5 K dX7_cut_198 ?_
          refine aw_goto (tgt := 205) K dX7_cut_200 (by decide) ?_
          refine aw_iret K rfl dX7_cut_205 ?_
          exact ⟨⟨_, rfl⟩, hx⟩
      · refine aw_il3 K dX7_cut_189 ?_
        refine aw_goto (tgt := 205) K dX7_cut_190 (by decide) ?_
        refine aw_iret K rfl dX7_cut_205 ?_
        exact ⟨⟨_, rfl⟩, hx⟩
    · exact absurd (Int32.le_refl _) b117
  | succ n ih =>
    intro i u k1
    refine aw_il6 K dX7_cut_111 ?_
    refine aw_al0 K dX7_cut_113 ?_
    refine aw_getI K gX7_121 dX7_cut_114 rfl rfl ?_
    rw [H.2.1.1]
    refine aw_icmp_ge (tgt := 185) K dX7_cut_117 (by decide) (fun b117 => ?_) (fun b117 => ?_)
    · exact absurd b117 (nI_ge (by omega) (by omega))
    · refine aw_il3 K dX7_cut_120 ?_
      refine aw_al0 K dX7_cut_121 ?_
      refine aw_getR K gX7_26 dX7_cut_122 rfl rfl ?_
      refine aw_il6 K dX7_cut_125 ?_
      refine aw_iald K dX7_cut_127 rfl (vp_in_nI (by omega) (by decide)) ?_
      refine aw_ishr K dX7_cut_128 ?_
      refine aw_iconst (v := 1) K dX7_cut_129 (by decide) ?_
      refine aw_iand K dX7_cut_130 ?_
      refine aw_il3 K dX7_cut_131 ?_
      refine aw_al0 K dX7_cut_132 ?_
      refine aw_getR K gX7_29 dX7_cut_133 rfl rfl ?_
      refine aw_il6 K dX7_cut_136 ?_
      refine aw_iald K dX7_cut_138 rfl (vp_in_nI (by omega) (by decide)) ?_
      refine aw_ishr K dX7_cut_139 ?_
      refine aw_iconst (v := 1) K dX7_cut_140 (by decide) ?_
      refine aw_iand K dX7_cut_141 ?_
      refine aw_icmp_eq (tgt := 149) K dX7_cut_142 (by decide) (fun b142 => ?_) (fun b142 => ?_)
      · refine aw_iconst (v := 0) K dX7_cut_149 (by decide) ?_
        refine aw_is7 K dX7_cut_150 (by decide) rfl ?_
        refine aw_il5 K dX7_cut_152 ?_
        refine aw_il7 K dX7_cut_154 ?_
        refine aw_if_eq (tgt := 175) K dX7_cut_156 (by decide) (fun b156 => ?_) (fun b156 => ?_)
        · refine aw_iconst (v := 0) K dX7_cut_175 (by decide) ?_
          refine aw_ior K dX7_cut_176 ?_
          refine aw_is5 K dX7_cut_177 (by decide) rfl ?_
          refine aw_ii6 (v := _ + 1) K dX7_cut_179 rfl (by decide) rfl ?_
          refine aw_goto (tgt := 111) K dX7_cut_182 (by decide) ?_
          rw [nI_1]
          refine aw_sub [some (.ref (g.2.1 0)), some (.int _), some (.int _), some (.int _), some (.int _), some (.int _), some (.int _), none] ⟨rfl, rfl, rfl, rfl, rfl, rfl, rfl, trivial⟩ ?_
          exact ih (i + 1) _ (by omega)
        · refine aw_al0 K dX7_cut_159 ?_
          refine aw_il6 K dX7_cut_160 ?_
          refine aw_callV_I K (tX7_roomOf l g sta _ _ (vp_in_nI (by omega) (by decide)) H) rfl (by decide) fX7_roomOf lX7_136 dX7_cut_162 rfl clsX7 rfl (Nat.le_of_ble_eq_true rfl) ?_
          refine aw_if_le (tgt := 175) K dX7_cut_165 (by decide) (fun b165 => ?_) (fun b165 => ?_)
          · refine aw_iconst (v := 0) K dX7_cut_175 (by decide) ?_
            refine aw_ior K dX7_cut_176 ?_
            refine aw_is5 K dX7_cut_177 (by decide) rfl ?_
            refine aw_ii6 (v := _ + 1) K dX7_cut_179 rfl (by decide) rfl ?_
            refine aw_goto (tgt := 111) K dX7_cut_182 (by decide) ?_
            rw [nI_1]
            refine aw_sub [some (.ref (g.2.1 0)), some (.int _), some (.int _), some (.int _), some (.int _), some (.int _), some (.int _), none] ⟨rfl, rfl, rfl, rfl, rfl, rfl, rfl, trivial⟩ ?_
            exact ih (i + 1) _ (by omega)
          · refine aw_iconst (v := 1) K dX7_cut_168 (by decide) ?_
            refine aw_il6 K dX7_cut_169 ?_
            refine aw_ishl K dX7_cut_171 ?_
            refine aw_goto (tgt := 176) K dX7_cut_172 (by decide) ?_
            refine aw_ior K dX7_cut_176 ?_
            refine aw_is5 K dX7_cut_177 (by decide) rfl ?_
            refine aw_ii6 (v := _ + 1) K dX7_cut_179 rfl (by decide) rfl ?_
            refine aw_goto (tgt := 111) K dX7_cut_182 (by decide) ?_
            rw [nI_1]
            refine aw_sub [some (.ref (g.2.1 0)), some (.int _), some (.int _), some (.int _), some (.int _), some (.int _), some (.int _), none] ⟨rfl, rfl, rfl, rfl, rfl, rfl, rfl, trivial⟩ ?_
            exact ih (i + 1) _ (by omega)
      · refine aw_iconst (v := 1) K dX7_cut_145 (by decide) ?_
        refine aw_goto (tgt := 150) K dX7_cut_146 (by decide) ?_
        refine aw_is7 K dX7_cut_150 (by decide) rfl ?_
        refine aw_il5 K dX7_cut_152 ?_
        refine aw_il7 K dX7_cut_154 ?_
        refine aw_if_eq (tgt := 175) K dX7_cut_156 (by decide) (fun b156 => ?_) (fun b156 => ?_)
        · refine aw_iconst (v := 0) K dX7_cut_175 (by decide) ?_
          refine aw_ior K dX7_cut_176 ?_
          refine aw_is5 K dX7_cut_177 (by decide) rfl ?_
          refine aw_ii6 (v := _ + 1) K dX7_cut_179 rfl (by decide) rfl ?_
          refine aw_goto (tgt := 111) K dX7_cut_182 (by decide) ?_
          rw [nI_1]
          refine aw_sub [some (.ref (g.2.1 0)), some (.int _), some (.int _), some (.int _), some (.int _), some (.int _), some (.int _), none] ⟨rfl, rfl, rfl, rfl, rfl, rfl, rfl, trivial⟩ ?_
          exact ih (i + 1) _ (by omega)
        · refine aw_al0 K dX7_cut_159 ?_
          refine aw_il6 K dX7_cut_160 ?_
          refine aw_callV_I K (tX7_roomOf l g sta _ _ (vp_in_nI (by omega) (by decide)) H) rfl (by decide) fX7_roomOf lX7_136 dX7_cut_162 rfl clsX7 rfl (Nat.le_of_ble_eq_true rfl) ?_
          refine aw_if_le (tgt := 175) K dX7_cut_165 (by decide) (fun b165 => ?_) (fun b165 => ?_)
          · refine aw_iconst (v := 0) K dX7_cut_175 (by decide) ?_
            refine aw_ior K dX7_cut_176 ?_
            refine aw_is5 K dX7_cut_177 (by decide) rfl ?_
            refine aw_ii6 (v := _ + 1) K dX7_cut_179 rfl (by decide) rfl ?_
            refine aw_goto (tgt := 111) K dX7_cut_182 (by decide) ?_
            rw [nI_1]
            refine aw_sub [some (.ref (g.2.1 0)), some (.int _), some (.int _), some (.int _), some (.int _), some (.int _), some (.int _), none] ⟨rfl, rfl, rfl, rfl, rfl, rfl, rfl, trivial⟩ ?_
            exact ih (i + 1) _ (by omega)
          · refine aw_iconst (v := 1) K dX7_cut_168 (by decide) ?_
            refine aw_il6 K dX7_cut_169 ?_
            refine aw_ishl K dX7_cut_171 ?_
            refine aw_goto (tgt := 176) K dX7_cut_172 (by decide) ?_
            refine aw_ior K dX7_cut_176 ?_
            refine aw_is5 K dX7_cut_177 (by decide) rfl ?_
            refine aw_ii6 (v := _ + 1) K dX7_cut_179 rfl (by decide) rfl ?_
            refine aw_goto (tgt := 111) K dX7_cut_182 (by decide) ?_
            rw [nI_1]
            refine aw_sub [some (.ref (g.2.1 0)), some (.int _), some (.int _), some (.int _), some (.int _), some (.int _), some (.int _), none] ⟨rfl, rfl, rfl, rfl, rfl, rfl, rfl, trivial⟩ ?_
            exact ih (i + 1) _ (by omega)
set_option maxHeartbeats 4000000 in
set_option maxRecDepth 100000 in
theorem lp1X7_cut {l : Launch} {g : Geo} {sta : Nat → Nat} {k : KT} (K : AOK (wM l g sta) mX7_cut k) (h0 h : HS) (a b : Int32) {N T Wn : Nat} (H : MW h N T Wn) (hx : MS h0 h) :
    ∀ (n i : Nat) (c e : Int32), i + n = N → AW (wM l g sta) (MSI h0) 7 mX7_cut k 40 [some (.ref (g.2.1 0)), some (.int a), some (.int b), some (.int c), some (.int e), some (.int (nI i)), none, none] [] h := by
  intro n
  have h3 := H.1.2
  induction n with
  | zero =>
    intro i c e k1
    obtain rfl : i = N := by omega
    refine aw_il5 K dX7_cut_40 ?_
    refine aw_al0 K dX7_cut_42 ?_
    refine aw_getI K gX7_98 dX7_cut_43 rfl rfl ?_
    rw [H.1.1]
    refine aw_icmp_ge (tgt := 105) K dX7_cut_46 (by decide) (fun b46 => ?_) (fun b46 => ?_)
    · refine aw_iconst (v := 0) K dX7_cut_105 (by decide) ?_
      refine aw_is5 K dX7_cut_106 (by decide) rfl ?_
      refine aw_iconst (v := 0) K dX7_cut_108 (by decide) ?_
      refine aw_is6 K dX7_cut_109 (by decide) rfl ?_
      exact lp2X7_cut K h0 h a b _ _ H hx T 0 0 (by omega)
    · exact absurd (Int32.le_refl _) b46
  | succ n ih =>
    intro i c e k1
    refine aw_il5 K dX7_cut_40 ?_
    refine aw_al0 K dX7_cut_42 ?_
    refine aw_getI K gX7_98 dX7_cut_43 rfl rfl ?_
    rw [H.1.1]
    refine aw_icmp_ge (tgt := 105) K dX7_cut_46 (by decide) (fun b46 => ?_) (fun b46 => ?_)
    · exact absurd b46 (nI_ge (by omega) (by omega))
    · refine aw_il3 K dX7_cut_49 ?_
      refine aw_al0 K dX7_cut_50 ?_
      refine aw_getR K gX7_56 dX7_cut_51 rfl rfl ?_
      refine aw_il5 K dX7_cut_54 ?_
      refine aw_iald K dX7_cut_56 rfl (vp_in_nI (by omega) (by decide)) ?_
      refine aw_bipush (v := (-4)) K dX7_cut_57 (by decide) ?_
      refine aw_icmp_eq (tgt := 69) K dX7_cut_59 (by decide) (fun b59 => ?_) (fun b59 => ?_)
      · refine aw_iconst (v := 0) K dX7_cut_69 (by decide) ?_
        refine aw_ior K dX7_cut_70 ?_
        refine aw_is3 K dX7_cut_71 (by decide) rfl ?_
        refine aw_il4 K dX7_cut_72 ?_
        refine aw_al0 K dX7_cut_74 ?_
        refine aw_getR K gX7_56 dX7_cut_75 rfl rfl ?_
        refine aw_il5 K dX7_cut_78 ?_
        refine aw_iald K dX7_cut_80 rfl (vp_in_nI (by omega) (by decide)) ?_
        refine aw_bipush (v := (-4)) K dX7_cut_81 (by decide) ?_
        refine aw_icmp_eq (tgt := 90) K dX7_cut_83 (by decide) (fun b83 => ?_) (fun b83 => ?_)
        · refine aw_al0 K dX7_cut_90 ?_
          refine aw_il5 K dX7_cut_91 ?_
          refine aw_callV_I K (tX7_given l g sta _ _ (vp_in_nI (by omega) (by decide))) rfl (by decide) fX7_given lX7_141 dX7_cut_93 rfl clsX7 rfl (Nat.le_of_ble_eq_true rfl) ?_
          refine aw_iadd K dX7_cut_96 ?_
          refine aw_is4 K dX7_cut_97 (by decide) rfl ?_
          refine aw_ii5 (v := _ + 1) K dX7_cut_99 rfl (by decide) rfl ?_
          refine aw_goto (tgt := 40) K dX7_cut_102 (by decide) ?_
          rw [nI_1]
          exact ih (i + 1) _ _ (by omega)
        · refine aw_iconst (v := 0) K dX7_cut_86 (by decide) ?_
          refine aw_goto (tgt := 96) K dX7_cut_87 (by decide) ?_
          refine aw_iadd K dX7_cut_96 ?_
          refine aw_is4 K dX7_cut_97 (by decide) rfl ?_
          refine aw_ii5 (v := _ + 1) K dX7_cut_99 rfl (by decide) rfl ?_
          refine aw_goto (tgt := 40) K dX7_cut_102 (by decide) ?_
          rw [nI_1]
          exact ih (i + 1) _ _ (by omega)
      · refine aw_iconst (v := 1) K dX7_cut_62 (by decide) ?_
        refine aw_il5 K dX7_cut_63 ?_
        refine aw_ishl K dX7_cut_65 ?_
        refine aw_goto (tgt := 70) K dX7_cut_66 (by decide) ?_
        refine aw_ior K dX7_cut_70 ?_
        refine aw_is3 K dX7_cut_71 (by decide) rfl ?_
        refine aw_il4 K dX7_cut_72 ?_
        refine aw_al0 K dX7_cut_74 ?_
        refine aw_getR K gX7_56 dX7_cut_75 rfl rfl ?_
        refine aw_il5 K dX7_cut_78 ?_
        refine aw_iald K dX7_cut_80 rfl (vp_in_nI (by omega) (by decide)) ?_
        refine aw_bipush (v := (-4)) K dX7_cut_81 (by decide) ?_
        refine aw_icmp_eq (tgt := 90) K dX7_cut_83 (by decide) (fun b83 => ?_) (fun b83 => ?_)
        · refine aw_al0 K dX7_cut_90 ?_
          refine aw_il5 K dX7_cut_91 ?_
          refine aw_callV_I K (tX7_given l g sta _ _ (vp_in_nI (by omega) (by decide))) rfl (by decide) fX7_given lX7_141 dX7_cut_93 rfl clsX7 rfl (Nat.le_of_ble_eq_true rfl) ?_
          refine aw_iadd K dX7_cut_96 ?_
          refine aw_is4 K dX7_cut_97 (by decide) rfl ?_
          refine aw_ii5 (v := _ + 1) K dX7_cut_99 rfl (by decide) rfl ?_
          refine aw_goto (tgt := 40) K dX7_cut_102 (by decide) ?_
          rw [nI_1]
          exact ih (i + 1) _ _ (by omega)
        · refine aw_iconst (v := 0) K dX7_cut_86 (by decide) ?_
          refine aw_goto (tgt := 96) K dX7_cut_87 (by decide) ?_
          refine aw_iadd K dX7_cut_96 ?_
          refine aw_is4 K dX7_cut_97 (by decide) rfl ?_
          refine aw_ii5 (v := _ + 1) K dX7_cut_99 rfl (by decide) rfl ?_
          refine aw_goto (tgt := 40) K dX7_cut_102 (by decide) ?_
          rw [nI_1]
          exact ih (i + 1) _ _ (by omega)
set_option maxHeartbeats 4000000 in
set_option maxRecDepth 100000 in
theorem tX7_cut (l : Launch) (g : Geo) (sta : Nat → Nat) (h : HS) (a b : Int32) {N T Wn : Nat} (H : MW h N T Wn) : CT (wM l g sta) 7 mX7_cut [.ref (g.2.1 0), .int a, .int b] h (MSI h) := by
  refine CT.at [some (.ref (g.2.1 0)), some (.int a), some (.int b), none, none, none, none, none] 5 rfl (by decide) (Nat.le_of_ble_eq_true rfl) (fun k K => ?_)
  refine aw_al0 K dX7_cut_0 ?_
  refine aw_il1 K dX7_cut_1 ?_
  refine aw_callV_I K (tX7_areNames l g sta _ _) rfl (by decide) fX7_areNames lX7_223 dX7_cut_2 rfl clsX7 rfl (Nat.le_of_ble_eq_true rfl) ?_
  refine aw_if_eq (tgt := 24) K dX7_cut_5 (by decide) (fun b5 => ?_) (fun b5 => ?_)
  · refine aw_iconst (v := (-1)) K dX7_cut_24 (by decide) ?_
    refine aw_iret K rfl dX7_cut_25 ?_
    exact ⟨⟨_, rfl⟩, MS.rf⟩
  · refine aw_il1 K dX7_cut_8 ?_
    refine aw_if_eq (tgt := 24) K dX7_cut_9 (by decide) (fun b9 => ?_) (fun b9 => ?_)
    · refine aw_iconst (v := (-1)) K dX7_cut_24 (by decide) ?_
      refine aw_iret K rfl dX7_cut_25 ?_
      exact ⟨⟨_, rfl⟩, MS.rf⟩
    · refine aw_il2 K dX7_cut_12 ?_
      refine aw_i2l K dX7_cut_13 ?_
      refine aw_lconst (v := 0) K dX7_cut_14 (by decide) ?_
      refine aw_ldc2 K qX7_226 dX7_cut_15 ?_
      refine aw_callS_I K (in32 l g sta _ _ (0) (2) (by decide) (by decide)) rfl (by decide) fX7_in lX7_102 dX7_cut_18 rfl (Nat.le_of_ble_eq_true rfl) ?_
      refine aw_if_ne (tgt := 26) K dX7_cut_21 (by decide) (fun b21 => ?_) (fun b21 => ?_)
      · refine aw_al0 K dX7_cut_26 ?_
        refine aw_il1 K dX7_cut_27 ?_
        refine aw_callV K (tX7_trustOf l g sta _ _ h H MS.rf) rfl (by decide) fX7_trustOf lX7_220 dX7_cut_28 rfl clsX7 rfl (Nat.le_of_ble_eq_true rfl) (fun o h2 hq => ?_)
        obtain ⟨⟨r, rfl⟩, hx⟩ := hq
        refine (show AW _ _ _ _ _ _ _ (.int r :: _) _ from ?_)
        refine aw_pop K dX7_cut_31 rfl ?_
        refine aw_iconst (v := 0) K dX7_cut_32 (by decide) ?_
        refine aw_is3 K dX7_cut_33 (by decide) rfl ?_
        refine aw_iconst (v := 0) K dX7_cut_34 (by decide) ?_
        refine aw_is4 K dX7_cut_35 (by decide) rfl ?_
        refine aw_iconst (v := 0) K dX7_cut_37 (by decide) ?_
        refine aw_is5 K dX7_cut_38 (by decide) rfl ?_
        exact lp1X7_cut K h _ a b (H.q hx) hx N 0 0 0 (by omega)
      · refine aw_iconst (v := (-1)) K dX7_cut_24 (by decide) ?_
        refine aw_iret K rfl dX7_cut_25 ?_
        exact ⟨⟨_, rfl⟩, MS.rf⟩

set_option maxHeartbeats 4000000 in
set_option maxRecDepth 100000 in
theorem lpX7_low {l : Launch} {g : Geo} {sta : Nat → Nat} {k : KT} (K : AOK (wM l g sta) mX7_low k) (h0 : HS) (a : Int32) {N T Wn : Nat} (H0 : MW h0 N T Wn) :
    ∀ (n i : Nat) (be va : Int32) (h : HS), i + n = N → MS h0 h → AW (wM l g sta) (MSI h0) 7 mX7_low k 21 [some (.ref (g.2.1 0)), some (.int a), some (.int be), some (.int va), some (.int (nI i)), none, none] [] h := by
  intro n
  have h3 := H0.1.2
  induction n with
  | zero =>
    intro i be va h k1 hx
    have H := H0.q hx
    obtain rfl : i = N := by omega
    refine aw_il4 K dX7_low_21 ?_
    refine aw_al0 K dX7_low_23 ?_
    refine aw_getI K gX7_98 dX7_low_24 rfl rfl ?_
    rw [H.1.1]
    refine aw_icmp_ge (tgt := 98) K dX7_low_27 (by decide) (fun b27 => ?_) (fun b27 => ?_)
    · refine aw_il1 K dX7_low_98 ?_
      refine aw_if_ne (tgt := 106) K dX7_low_99 (by decide) (fun b99 => ?_) (fun b99 => ?_)
      · refine aw_il3 K dX7_low_106 ?_
        refine aw_iret K rfl dX7_low_107 ?_
        exact ⟨⟨_, rfl⟩, hx⟩
      · refine aw_il2 K dX7_low_102 ?_
        refine aw_goto (tgt := 107) K dX7_low_103 (by decide) ?_
        refine aw_iret K rfl dX7_low_107 ?_
        exact ⟨⟨_, rfl⟩, hx⟩
    · exact absurd (Int32.le_refl _) b27
  | succ n ih =>
    intro i be va h k1 hx
    have H := H0.q hx
    refine aw_il4 K dX7_low_21 ?_
    refine aw_al0 K dX7_low_23 ?_
    refine aw_getI K gX7_98 dX7_low_24 rfl rfl ?_
    rw [H.1.1]
    refine aw_icmp_ge (tgt := 98) K dX7_low_27 (by decide) (fun b27 => ?_) (fun b27 => ?_)
    · exact absurd b27 (nI_ge (by omega) (by omega))
    · refine aw_al0 K dX7_low_30 ?_
      refine aw_il4 K dX7_low_31 ?_
      refine aw_callV_I K (tX7_isPlain l g sta _ _ (vp_in_nI (by omega) (by decide))) rfl (by decide) fX7_isPlain lX7_228 dX7_low_33 rfl clsX7 rfl (Nat.le_of_ble_eq_true rfl) ?_
      refine aw_if_eq (tgt := 92) K dX7_low_36 (by decide) (fun b36 => ?_) (fun b36 => ?_)
      · refine aw_ii4 (v := _ + 1) K dX7_low_92 rfl (by decide) rfl ?_
        refine aw_goto (tgt := 21) K dX7_low_95 (by decide) ?_
        rw [nI_1]
        refine aw_sub [some (.ref (g.2.1 0)), some (.int _), some (.int _), some (.int _), some (.int _), none, none] ⟨rfl, rfl, rfl, rfl, rfl, trivial⟩ ?_
        exact ih (i + 1) _ _ _ (by omega) hx
      · refine aw_al0 K dX7_low_39 ?_
        refine aw_iconst (v := 1) K dX7_low_40 (by decide) ?_
        refine aw_il4 K dX7_low_41 ?_
        refine aw_ishl K dX7_low_43 ?_
        refine aw_callV K (tX7_trustOf l g sta _ _ h0 H0 hx) rfl (by decide) fX7_trustOf lX7_220 dX7_low_44 rfl clsX7 rfl (Nat.le_of_ble_eq_true rfl) (fun o h2 hq => ?_)
        obtain ⟨⟨r, rfl⟩, hx2⟩ := hq
        refine (show AW _ _ _ _ _ _ _ (.int r :: _) _ from ?_)
        refine aw_is5 K dX7_low_47 (by decide) rfl ?_
        refine aw_il2 K dX7_low_49 ?_
        refine aw_bipush (v := (-4)) K dX7_low_50 (by decide) ?_
        refine aw_icmp_eq (tgt := 61) K dX7_low_52 (by decide) (fun b52 => ?_) (fun b52 => ?_)
        · refine aw_iconst (v := 1) K dX7_low_61 (by decide) ?_
          refine aw_goto (tgt := 66) K dX7_low_62 (by decide) ?_
          refine aw_is6 K dX7_low_66 (by decide) rfl ?_
          refine aw_il6 K dX7_low_68 ?_
          refine aw_if_eq (tgt := 78) K dX7_low_70 (by decide) (fun b70 => ?_) (fun b70 => ?_)
          · refine aw_il2 K dX7_low_78 ?_
            refine aw_is2 K dX7_low_79 (by decide) rfl ?_
            refine aw_il6 K dX7_low_80 ?_
            refine aw_if_eq (tgt := 90) K dX7_low_82 (by decide) (fun b82 => ?_) (fun b82 => ?_)
            · refine aw_il3 K dX7_low_90 ?_
              refine aw_is3 K dX7_low_91 (by decide) rfl ?_
              refine aw_ii4 (v := _ + 1) K dX7_low_92 rfl (by decide) rfl ?_
              refine aw_goto (tgt := 21) K dX7_low_95 (by decide) ?_
              rw [nI_1]
              refine aw_sub [some (.ref (g.2.1 0)), some (.int _), some (.int _), some (.int _), some (.int _), none, none] ⟨rfl, rfl, rfl, rfl, rfl, trivial⟩ ?_
              exact ih (i + 1) _ _ _ (by omega) hx2
            · refine aw_il5 K dX7_low_85 ?_
              refine aw_goto (tgt := 91) K dX7_low_87 (by decide) ?_
              refine aw_is3 K dX7_low_91 (by decide) rfl ?_
              refine aw_ii4 (v := _ + 1) K dX7_low_92 rfl (by decide) rfl ?_
              refine aw_goto (tgt := 21) K dX7_low_95 (by decide) ?_
              rw [nI_1]
              refine aw_sub [some (.ref (g.2.1 0)), some (.int _), some (.int _), some (.int _), some (.int _), none, none] ⟨rfl, rfl, rfl, rfl, rfl, trivial⟩ ?_
              exact ih (i + 1) _ _ _ (by omega) hx2
          · refine aw_il4 K dX7_low_73 ?_
            refine aw_goto (tgt := 79) K dX7_low_75 (by decide) ?_
            refine aw_is2 K dX7_low_79 (by decide) rfl ?_
            refine aw_il6 K dX7_low_80 ?_
            refine aw_if_eq (tgt := 90) K dX7_low_82 (by decide) (fun b82 => ?_) (fun b82 => ?_)
            · refine aw_il3 K dX7_low_90 ?_
              refine aw_is3 K dX7_low_91 (by decide) rfl ?_
              refine aw_ii4 (v := _ + 1) K dX7_low_92 rfl (by decide) rfl ?_
              refine aw_goto (tgt := 21) K dX7_low_95 (by decide) ?_
              rw [nI_1]
              refine aw_sub [some (.ref (g.2.1 0)), some (.int _), some (.int _), some (.int _), some (.int _), none, none] ⟨rfl, rfl, rfl, rfl, rfl, trivial⟩ ?_
              exact ih (i + 1) _ _ _ (by omega) hx2
            · refine aw_il5 K dX7_low_85 ?_
              refine aw_goto (tgt := 91) K dX7_low_87 (by decide) ?_
              refine aw_is3 K dX7_low_91 (by decide) rfl ?_
              refine aw_ii4 (v := _ + 1) K dX7_low_92 rfl (by decide) rfl ?_
              refine aw_goto (tgt := 21) K dX7_low_95 (by decide) ?_
              rw [nI_1]
              refine aw_sub [some (.ref (g.2.1 0)), some (.int _), some (.int _), some (.int _), some (.int _), none, none] ⟨rfl, rfl, rfl, rfl, rfl, trivial⟩ ?_
              exact ih (i + 1) _ _ _ (by omega) hx2
        · refine aw_il5 K dX7_low_55 ?_
          refine aw_il3 K dX7_low_57 ?_
          refine aw_icmp_ge (tgt := 65) K dX7_low_58 (by decide) (fun b58 => ?_) (fun b58 => ?_)
          · refine aw_iconst (v := 0) K dX7_low_65 (by decide) ?_
            refine aw_is6 K dX7_low_66 (by decide) rfl ?_
            refine aw_il6 K dX7_low_68 ?_
            refine aw_if_eq (tgt := 78) K dX7_low_70 (by decide) (fun b70 => ?_) (fun b70 => ?_)
            · refine aw_il2 K dX7_low_78 ?_
              refine aw_is2 K dX7_low_79 (by decide) rfl ?_
              refine aw_il6 K dX7_low_80 ?_
              refine aw_if_eq (tgt := 90) K dX7_low_82 (by decide) (fun b82 => ?_) (fun b82 => ?_)
              · refine aw_il3 K dX7_low_90 ?_
                refine aw_is3 K dX7_low_91 (by decide) rfl ?_
                refine aw_ii4 (v := _ + 1) K dX7_low_92 rfl (by decide) rfl ?_
                refine aw_goto (tgt := 21) K dX7_low_95 (by decide) ?_
                rw [nI_1]
                refine aw_sub [some (.ref (g.2.1 0)), some (.int _), some (.int _), some (.int _), some (.int _), none, none] ⟨rfl, rfl, rfl, rfl, rfl, trivial⟩ ?_
                exact ih (i + 1) _ _ _ (by omega) hx2
              · refine aw_il5 K dX7_low_85 ?_
                refine aw_goto (tgt := 91) K dX7_low_87 (by decide) ?_
                refine aw_is3 K dX7_low_91 (by decide) rfl ?_
                refine aw_ii4 (v := _ + 1) K dX7_low_92 rfl (by decide) rfl ?_
                refine aw_goto (tgt := 21) K dX7_low_95 (by decide) ?_
                rw [nI_1]
                refine aw_sub [some (.ref (g.2.1 0)), some (.int _), some (.int _), some (.int _), some (.int _), none, none] ⟨rfl, rfl, rfl, rfl, rfl, trivial⟩ ?_
                exact ih (i + 1) _ _ _ (by omega) hx2
            · refine aw_il4 K dX7_low_73 ?_
              refine aw_goto (tgt := 79) K dX7_low_75 (by decide) ?_
              refine aw_is2 K dX7_low_79 (by decide) rfl ?_
              refine aw_il6 K dX7_low_80 ?_
              refine aw_if_eq (tgt := 90) K dX7_low_82 (by decide) (fun b82 => ?_) (fun b82 => ?_)
              · refine aw_il3 K dX7_low_90 ?_
                refine aw_is3 K dX7_low_91 (by decide) rfl ?_
                refine aw_ii4 (v := _ + 1) K dX7_low_92 rfl (by decide) rfl ?_
                refine aw_goto (tgt := 21) K dX7_low_95 (by decide) ?_
                rw [nI_1]
                refine aw_sub [some (.ref (g.2.1 0)), some (.int _), some (.int _), some (.int _), some (.int _), none, none] ⟨rfl, rfl, rfl, rfl, rfl, trivial⟩ ?_
                exact ih (i + 1) _ _ _ (by omega) hx2
              · refine aw_il5 K dX7_low_85 ?_
                refine aw_goto (tgt := 91) K dX7_low_87 (by decide) ?_
                refine aw_is3 K dX7_low_91 (by decide) rfl ?_
                refine aw_ii4 (v := _ + 1) K dX7_low_92 rfl (by decide) rfl ?_
                refine aw_goto (tgt := 21) K dX7_low_95 (by decide) ?_
                rw [nI_1]
                refine aw_sub [some (.ref (g.2.1 0)), some (.int _), some (.int _), some (.int _), some (.int _), none, none] ⟨rfl, rfl, rfl, rfl, rfl, trivial⟩ ?_
                exact ih (i + 1) _ _ _ (by omega) hx2
          · refine aw_iconst (v := 1) K dX7_low_61 (by decide) ?_
            refine aw_goto (tgt := 66) K dX7_low_62 (by decide) ?_
            refine aw_is6 K dX7_low_66 (by decide) rfl ?_
            refine aw_il6 K dX7_low_68 ?_
            refine aw_if_eq (tgt := 78) K dX7_low_70 (by decide) (fun b70 => ?_) (fun b70 => ?_)
            · refine aw_il2 K dX7_low_78 ?_
              refine aw_is2 K dX7_low_79 (by decide) rfl ?_
              refine aw_il6 K dX7_low_80 ?_
              refine aw_if_eq (tgt := 90) K dX7_low_82 (by decide) (fun b82 => ?_) (fun b82 => ?_)
              · refine aw_il3 K dX7_low_90 ?_
                refine aw_is3 K dX7_low_91 (by decide) rfl ?_
                refine aw_ii4 (v := _ + 1) K dX7_low_92 rfl (by decide) rfl ?_
                refine aw_goto (tgt := 21) K dX7_low_95 (by decide) ?_
                rw [nI_1]
                refine aw_sub [some (.ref (g.2.1 0)), some (.int _), some (.int _), some (.int _), some (.int _), none, none] ⟨rfl, rfl, rfl, rfl, rfl, trivial⟩ ?_
                exact ih (i + 1) _ _ _ (by omega) hx2
              · refine aw_il5 K dX7_low_85 ?_
                refine aw_goto (tgt := 91) K dX7_low_87 (by decide) ?_
                refine aw_is3 K dX7_low_91 (by decide) rfl ?_
                refine aw_ii4 (v := _ + 1) K dX7_low_92 rfl (by decide) rfl ?_
                refine aw_goto (tgt := 21) K dX7_low_95 (by decide) ?_
                rw [nI_1]
                refine aw_sub [some (.ref (g.2.1 0)), some (.int _), some (.int _), some (.int _), some (.int _), none, none] ⟨rfl, rfl, rfl, rfl, rfl, trivial⟩ ?_
                exact ih (i + 1) _ _ _ (by omega) hx2
            · refine aw_il4 K dX7_low_73 ?_
              refine aw_goto (tgt := 79) K dX7_low_75 (by decide) ?_
              refine aw_is2 K dX7_low_79 (by decide) rfl ?_
              refine aw_il6 K dX7_low_80 ?_
              refine aw_if_eq (tgt := 90) K dX7_low_82 (by decide) (fun b82 => ?_) (fun b82 => ?_)
              · refine aw_il3 K dX7_low_90 ?_
                refine aw_is3 K dX7_low_91 (by decide) rfl ?_
                refine aw_ii4 (v := _ + 1) K dX7_low_92 rfl (by decide) rfl ?_
                refine aw_goto (tgt := 21) K dX7_low_95 (by decide) ?_
                rw [nI_1]
                refine aw_sub [some (.ref (g.2.1 0)), some (.int _), some (.int _), some (.int _), some (.int _), none, none] ⟨rfl, rfl, rfl, rfl, rfl, trivial⟩ ?_
                exact ih (i + 1) _ _ _ (by omega) hx2
              · refine aw_il5 K dX7_low_85 ?_
                refine aw_goto (tgt := 91) K dX7_low_87 (by decide) ?_
                refine aw_is3 K dX7_low_91 (by decide) rfl ?_
                refine aw_ii4 (v := _ + 1) K dX7_low_92 rfl (by decide) rfl ?_
                refine aw_goto (tgt := 21) K dX7_low_95 (by decide) ?_
                rw [nI_1]
                refine aw_sub [some (.ref (g.2.1 0)), some (.int _), some (.int _), some (.int _), some (.int _), none, none] ⟨rfl, rfl, rfl, rfl, rfl, trivial⟩ ?_
                exact ih (i + 1) _ _ _ (by omega) hx2
set_option maxHeartbeats 4000000 in
set_option maxRecDepth 100000 in
theorem tX7_low (l : Launch) (g : Geo) (sta : Nat → Nat) (h : HS) (a : Int32) {N T Wn : Nat} (H : MW h N T Wn) : CT (wM l g sta) 7 mX7_low [.ref (g.2.1 0), .int a] h (MSI h) := by
  refine CT.at [some (.ref (g.2.1 0)), some (.int a), none, none, none, none, none] 5 rfl (by decide) (Nat.le_of_ble_eq_true rfl) (fun k K => ?_)
  refine aw_il1 K dX7_low_0 ?_
  refine aw_i2l K dX7_low_1 ?_
  refine aw_lconst (v := 0) K dX7_low_2 (by decide) ?_
  refine aw_lconst (v := 1) K dX7_low_3 (by decide) ?_
  refine aw_callS_I K (in32 l g sta _ _ (0) (1) (by decide) (by decide)) rfl (by decide) fX7_in lX7_102 dX7_low_4 rfl (Nat.le_of_ble_eq_true rfl) ?_
  refine aw_if_ne (tgt := 12) K dX7_low_7 (by decide) (fun b7 => ?_) (fun b7 => ?_)
  · refine aw_bipush (v := (-4)) K dX7_low_12 (by decide) ?_
    refine aw_is2 K dX7_low_14 (by decide) rfl ?_
    refine aw_bipush (v := (-4)) K dX7_low_15 (by decide) ?_
    refine aw_is3 K dX7_low_17 (by decide) rfl ?_
    refine aw_iconst (v := 0) K dX7_low_18 (by decide) ?_
    refine aw_is4 K dX7_low_19 (by decide) rfl ?_
    exact lpX7_low K h a H N 0 _ _ h (by omega) MS.rf
  · refine aw_iconst (v := (-1)) K dX7_low_10 (by decide) ?_
    refine aw_iret K rfl dX7_low_11 ?_
    exact ⟨⟨_, rfl⟩, MS.rf⟩

set_option maxHeartbeats 4000000 in
set_option maxRecDepth 100000 in
theorem lp2X7_twins {l : Launch} {g : Geo} {sta : Nat → Nat} {k : KT} (K : AOK (wM l g sta) mX7_twins k) (h0 : HS) (a : Int32) {N T Wn : Nat} (H0 : MW h0 N T Wn) (i : Nat) (hi : i < N)
    (hk : ∀ (be va : Int32) (h : HS), MS h0 h → AW (wM l g sta) (MSI h0) 7 mX7_twins k 133 [some (.ref (g.2.1 0)), some (.int a), some (.int be), some (.int va), some (.int (nI i)), none, none] [] h) :
    ∀ (n j : Nat) (be va : Int32) (h : HS), j + n = N → MS h0 h → AW (wM l g sta) (MSI h0) 7 mX7_twins k 35 [some (.ref (g.2.1 0)), some (.int a), some (.int be), some (.int va), some (.int (nI i)), some (.int (nI j)), none] [] h := by
  intro n
  have h3 := H0.1.2
  induction n with
  | zero =>
    intro j be va h k1 hx
    have H := H0.q hx
    obtain rfl : j = N := by omega
    refine aw_il5 K dX7_twins_35 ?_
    refine aw_al0 K dX7_twins_37 ?_
    refine aw_getI K gX7_98 dX7_twins_38 rfl rfl ?_
    rw [H.1.1]
    refine aw_icmp_ge (tgt := 133) K dX7_twins_41 (by decide) (fun b41 => ?_) (fun b41 => ?_)
    · refine aw_sub [some (.ref (g.2.1 0)), some (.int _), some (.int _), some (.int _), some (.int _), none, none] ⟨rfl, rfl, rfl, rfl, rfl, trivial⟩ ?_
      exact hk _ _ _ hx
    · exact absurd (Int32.le_refl _) b41
  | succ n ih =>
    intro j be va h k1 hx
    have H := H0.q hx
    refine aw_il5 K dX7_twins_35 ?_
    refine aw_al0 K dX7_twins_37 ?_
    refine aw_getI K gX7_98 dX7_twins_38 rfl rfl ?_
    rw [H.1.1]
    refine aw_icmp_ge (tgt := 133) K dX7_twins_41 (by decide) (fun b41 => ?_) (fun b41 => ?_)
    · exact absurd b41 (nI_ge (by omega) (by omega))
    · refine aw_al0 K dX7_twins_44 ?_
      refine aw_il4 K dX7_twins_45 ?_
      refine aw_callV_I K (tX7_isPlain l g sta _ _ (vp_in_nI (by omega) (by decide))) rfl (by decide) fX7_isPlain lX7_228 dX7_twins_47 rfl clsX7 rfl (Nat.le_of_ble_eq_true rfl) ?_
      refine aw_if_eq (tgt := 127) K dX7_twins_50 (by decide) (fun b50 => ?_) (fun b50 => ?_)
      · refine aw_ii5 (v := _ + 1) K dX7_twins_127 rfl (by decide) rfl ?_
        refine aw_goto (tgt := 35) K dX7_twins_130 (by decide) ?_
        rw [nI_1]
        refine aw_sub [some (.ref (g.2.1 0)), some (.int _), some (.int _), some (.int _), some (.int _), some (.int _), none] ⟨rfl, rfl, rfl, rfl, rfl, rfl, trivial⟩ ?_
        exact ih (j + 1) _ _ _ (by omega) hx
      · refine aw_al0 K dX7_twins_53 ?_
        refine aw_il5 K dX7_twins_54 ?_
        refine aw_callV_I K (tX7_isPlain l g sta _ _ (vp_in_nI (by omega) (by decide))) rfl (by decide) fX7_isPlain lX7_228 dX7_twins_56 rfl clsX7 rfl (Nat.le_of_ble_eq_true rfl) ?_
        refine aw_if_eq (tgt := 127) K dX7_twins_59 (by decide) (fun b59 => ?_) (fun b59 => ?_)
        · refine aw_ii5 (v := _ + 1) K dX7_twins_127 rfl (by decide) rfl ?_
          refine aw_goto (tgt := 35) K dX7_twins_130 (by decide) ?_
          rw [nI_1]
          refine aw_sub [some (.ref (g.2.1 0)), some (.int _), some (.int _), some (.int _), some (.int _), some (.int _), none] ⟨rfl, rfl, rfl, rfl, rfl, rfl, trivial⟩ ?_
          exact ih (j + 1) _ _ _ (by omega) hx
        · refine aw_al0 K dX7_twins_62 ?_
          refine aw_iconst (v := 1) K dX7_twins_63 (by decide) ?_
          refine aw_il4 K dX7_twins_64 ?_
          refine aw_ishl K dX7_twins_66 ?_
          refine aw_callV K (tX7_trustOf l g sta _ _ h0 H0 hx) rfl (by decide) fX7_trustOf lX7_220 dX7_twins_67 rfl clsX7 rfl (Nat.le_of_ble_eq_true rfl) (fun o h2 hq => ?_)
          obtain ⟨⟨r, rfl⟩, hx2⟩ := hq
          refine (show AW _ _ _ _ _ _ _ (.int r :: _) _ from ?_)
          refine aw_al0 K dX7_twins_70 ?_
          refine aw_iconst (v := 1) K dX7_twins_71 (by decide) ?_
          refine aw_il5 K dX7_twins_72 ?_
          refine aw_ishl K dX7_twins_74 ?_
          refine aw_callV K (tX7_trustOf l g sta _ _ h0 H0 hx2) rfl (by decide) fX7_trustOf lX7_220 dX7_twins_75 rfl clsX7 rfl (Nat.le_of_ble_eq_true rfl) (fun o h2 hq => ?_)
          obtain ⟨⟨r2, rfl⟩, hx3⟩ := hq
          refine (show AW _ _ _ _ _ _ _ (.int r2 :: _) _ from ?_)
          refine aw_iadd K dX7_twins_78 ?_
          refine aw_al0 K dX7_twins_79 ?_
          refine aw_iconst (v := 1) K dX7_twins_80 (by decide) ?_
          refine aw_il4 K dX7_twins_81 ?_
          refine aw_ishl K dX7_twins_83 ?_
          refine aw_iconst (v := 1) K dX7_twins_84 (by decide) ?_
          refine aw_il5 K dX7_twins_85 ?_
          refine aw_ishl K dX7_twins_87 ?_
          refine aw_ior K dX7_twins_88 ?_
          refine aw_callV K (tX7_trustOf l g sta _ _ h0 H0 hx3) rfl (by decide) fX7_trustOf lX7_220 dX7_twins_89 rfl clsX7 rfl (Nat.le_of_ble_eq_true rfl) (fun o h2 hq => ?_)
          obtain ⟨⟨r3, rfl⟩, hx4⟩ := hq
          refine (show AW _ _ _ _ _ _ _ (.int r3 :: _) _ from ?_)
          refine aw_isub K dX7_twins_92 ?_
          refine aw_is6 K dX7_twins_93 (by decide) rfl ?_
          refine aw_il6 K dX7_twins_95 ?_
          refine aw_il3 K dX7_twins_97 ?_
          refine aw_icmp_le (tgt := 112) K dX7_twins_98 (by decide) (fun b98 => ?_) (fun b98 => ?_)
          · refine aw_il2 K dX7_twins_112 ?_
            refine aw_is2 K dX7_twins_113 (by decide) rfl ?_
            refine aw_il6 K dX7_twins_114 ?_
            refine aw_il3 K dX7_twins_116 ?_
            refine aw_icmp_le (tgt := 125) K dX7_twins_117 (by decide) (fun b117 => ?_) (fun b117 => ?_)
            · refine aw_il3 K dX7_twins_125 ?_
              refine aw_is3 K dX7_twins_126 (by decide) rfl ?_
              refine aw_ii5 (v := _ + 1) K dX7_twins_127 rfl (by decide) rfl ?_
              refine aw_goto (tgt := 35) K dX7_twins_130 (by decide) ?_
              rw [nI_1]
              refine aw_sub [some (.ref (g.2.1 0)), some (.int _), some (.int _), some (.int _), some (.int _), some (.int _), none] ⟨rfl, rfl, rfl, rfl, rfl, rfl, trivial⟩ ?_
              exact ih (j + 1) _ _ _ (by omega) hx4
            · refine aw_il6 K dX7_twins_120 ?_
              refine aw_goto (tgt := 126) K dX7_twins_122 (by decide) ?_
              refine aw_is3 K dX7_twins_126 (by decide) rfl ?_
              refine aw_ii5 (v := _ + 1) K dX7_twins_127 rfl (by decide) rfl ?_
              refine aw_goto (tgt := 35) K dX7_twins_130 (by decide) ?_
              rw [nI_1]
              refine aw_sub [some (.ref (g.2.1 0)), some (.int _), some (.int _), some (.int _), some (.int _), some (.int _), none] ⟨rfl, rfl, rfl, rfl, rfl, rfl, trivial⟩ ?_
              exact ih (j + 1) _ _ _ (by omega) hx4
          · refine aw_bipush (v := 16) K dX7_twins_101 (by decide) ?_
            refine aw_il4 K dX7_twins_103 ?_
            refine aw_imul K dX7_twins_105 ?_
            refine aw_il5 K dX7_twins_106 ?_
            refine aw_iadd K dX7_twins_108 ?_
            refine aw_goto (tgt := 113) K dX7_twins_109 (by decide) ?_
            refine aw_is2 K dX7_twins_113 (by decide) rfl ?_
            refine aw_il6 K dX7_twins_114 ?_
            refine aw_il3 K dX7_twins_116 ?_
            refine aw_icmp_le (tgt := 125) K dX7_twins_117 (by decide) (fun b117 => ?_) (fun b117 => ?_)
            · refine aw_il3 K dX7_twins_125 ?_
              refine aw_is3 K dX7_twins_126 (by decide) rfl ?_
              refine aw_ii5 (v := _ + 1) K dX7_twins_127 rfl (by decide) rfl ?_
              refine aw_goto (tgt := 35) K dX7_twins_130 (by decide) ?_
              rw [nI_1]
              refine aw_sub [some (.ref (g.2.1 0)), some (.int _), some (.int _), some (.int _), some (.int _), some (.int _), none] ⟨rfl, rfl, rfl, rfl, rfl, rfl, trivial⟩ ?_
              exact ih (j + 1) _ _ _ (by omega) hx4
            · refine aw_il6 K dX7_twins_120 ?_
              refine aw_goto (tgt := 126) K dX7_twins_122 (by decide) ?_
              refine aw_is3 K dX7_twins_126 (by decide) rfl ?_
              refine aw_ii5 (v := _ + 1) K dX7_twins_127 rfl (by decide) rfl ?_
              refine aw_goto (tgt := 35) K dX7_twins_130 (by decide) ?_
              rw [nI_1]
              refine aw_sub [some (.ref (g.2.1 0)), some (.int _), some (.int _), some (.int _), some (.int _), some (.int _), none] ⟨rfl, rfl, rfl, rfl, rfl, rfl, trivial⟩ ?_
              exact ih (j + 1) _ _ _ (by omega) hx4
set_option maxHeartbeats 4000000 in
set_option maxRecDepth 100000 in
theorem lpX7_twins {l : Launch} {g : Geo} {sta : Nat → Nat} {k : KT} (K : AOK (wM l g sta) mX7_twins k) (h0 : HS) (a : Int32) {N T Wn : Nat} (H0 : MW h0 N T Wn) :
    ∀ (n i : Nat) (be va : Int32) (h : HS), i + n = N → MS h0 h → AW (wM l g sta) (MSI h0) 7 mX7_twins k 20 [some (.ref (g.2.1 0)), some (.int a), some (.int be), some (.int va), some (.int (nI i)), none, none] [] h := by
  intro n
  have h3 := H0.1.2
  induction n with
  | zero =>
    intro i be va h k1 hx
    have H := H0.q hx
    obtain rfl : i = N := by omega
    refine aw_il4 K dX7_twins_20 ?_
    refine aw_al0 K dX7_twins_22 ?_
    refine aw_getI K gX7_98 dX7_twins_23 rfl rfl ?_
    rw [H.1.1]
    refine aw_icmp_ge (tgt := 139) K dX7_twins_26 (by decide) (fun b26 => ?_) (fun b26 => ?_)
    · refine aw_il2 K dX7_twins_139 ?_
      refine aw_bipush (v := (-4)) K dX7_twins_140 (by decide) ?_
      refine aw_icmp_ne (tgt := 150) K dX7_twins_142 (by decide) (fun b142 => ?_) (fun b142 => ?_)
      · refine aw_il1 K dX7_twins_150 ?_
        refine aw_if_ne (tgt := 158) K dX7_twins_151 (by decide) (fun b151 => ?_) (fun b151 => ?_)
        · refine aw_il3 K dX7_twins_158 ?_
          refine aw_iret K rfl dX7_twins_159 ?_
          exact ⟨⟨_, rfl⟩, hx⟩
        · refine aw_il2 K dX7_twins_154 ?_
          refine aw_goto (tgt := 159) K dX7_twins_155 (by decide) ?_
          refine aw_iret K rfl dX7_twins_159 ?_
          exact ⟨⟨_, rfl⟩, hx⟩
      · refine aw_bipush (v := (-4)) K dX7_twins_145 (by decide) ?_
        refine aw_goto (tgt := 159) K dX7_twins_147 (by decide) ?_
        refine aw_iret K rfl dX7_twins_159 ?_
        exact ⟨⟨_, rfl⟩, hx⟩
    · exact absurd (Int32.le_refl _) b26
  | succ n ih =>
    intro i be va h k1 hx
    have H := H0.q hx
    refine aw_il4 K dX7_twins_20 ?_
    refine aw_al0 K dX7_twins_22 ?_
    refine aw_getI K gX7_98 dX7_twins_23 rfl rfl ?_
    rw [H.1.1]
    refine aw_icmp_ge (tgt := 139) K dX7_twins_26 (by decide) (fun b26 => ?_) (fun b26 => ?_)
    · exact absurd b26 (nI_ge (by omega) (by omega))
    · refine aw_il4 K dX7_twins_29 ?_
      refine aw_iconst (v := 1) K dX7_twins_31 (by decide) ?_
      refine aw_iadd K dX7_twins_32 ?_
      refine aw_is5 K dX7_twins_33 (by decide) rfl ?_
      rw [nI_1]
      refine lp2X7_twins K h0 a H0 i (by omega) (fun be va h hx => ?_) (N - (i + 1)) (i + 1) _ _ _ (by omega) hx
      refine aw_ii4 (v := _ + 1) K dX7_twins_133 rfl (by decide) rfl ?_
      refine aw_goto (tgt := 20) K dX7_twins_136 (by decide) ?_
      rw [nI_1]
      exact ih (i + 1) _ _ _ (by omega) hx
set_option maxHeartbeats 4000000 in
set_option maxRecDepth 100000 in
theorem tX7_twins (l : Launch) (g : Geo) (sta : Nat → Nat) (h : HS) (a : Int32) {N T Wn : Nat} (H : MW h N T Wn) : CT (wM l g sta) 7 mX7_twins [.ref (g.2.1 0), .int a] h (MSI h) := by
  refine CT.at [some (.ref (g.2.1 0)), some (.int a), none, none, none, none, none] 5 rfl (by decide) (Nat.le_of_ble_eq_true rfl) (fun k K => ?_)
  refine aw_il1 K dX7_twins_0 ?_
  refine aw_i2l K dX7_twins_1 ?_
  refine aw_lconst (v := 0) K dX7_twins_2 (by decide) ?_
  refine aw_lconst (v := 1) K dX7_twins_3 (by decide) ?_
  refine aw_callS_I K (in32 l g sta _ _ (0) (1) (by decide) (by decide)) rfl (by decide) fX7_in lX7_102 dX7_twins_4 rfl (Nat.le_of_ble_eq_true rfl) ?_
  refine aw_if_ne (tgt := 12) K dX7_twins_7 (by decide) (fun b7 => ?_) (fun b7 => ?_)
  · refine aw_bipush (v := (-4)) K dX7_twins_12 (by decide) ?_
    refine aw_is2 K dX7_twins_14 (by decide) rfl ?_
    refine aw_iconst (v := 0) K dX7_twins_15 (by decide) ?_
    refine aw_is3 K dX7_twins_16 (by decide) rfl ?_
    refine aw_iconst (v := 0) K dX7_twins_17 (by decide) ?_
    refine aw_is4 K dX7_twins_18 (by decide) rfl ?_
    exact lpX7_twins K h a H N 0 _ _ h (by omega) MS.rf
  · refine aw_iconst (v := (-1)) K dX7_twins_10 (by decide) ?_
    refine aw_iret K rfl dX7_twins_11 ?_
    exact ⟨⟨_, rfl⟩, MS.rf⟩

theorem lrem_lt {x y : Int64} (hy : ¬ y = 0) : (x - x / y * y).toInt.natAbs < y.toInt.natAbs ∧ (x - x / y * y).toInt.natAbs ≤ x.toInt.natAbs := by
  have hy0 : ¬ y.toInt = 0 := fun q => hy (Int64.toInt_inj.mp (by rw [q]; rfl))
  have e : (x - x / y * y).toInt = x.toInt.tmod y.toInt := by
    rw [Int64.toInt_sub, Int64.toInt_mul, Int64.toInt_div]
    rw [Int.bmod_mul_bmod, Int.sub_bmod_bmod]
    have h1 : x.toInt - x.toInt.tdiv y.toInt * y.toInt = x.toInt.tmod y.toInt := by
      have := Int.tdiv_mul_add_tmod x.toInt y.toInt
      omega
    rw [h1]
    have hb := Int64.toInt_lt y
    have hb2 := Int64.le_toInt y
    have h2 : (x.toInt.tmod y.toInt).natAbs < y.toInt.natAbs := by
      rw [Int.natAbs_tmod]
      exact Nat.mod_lt _ (by omega)
    exact Int.bmod_eq_of_le (by omega) (by omega)
  rw [e, Int.natAbs_tmod]
  exact ⟨Nat.mod_lt _ (by omega), Nat.mod_le _ _⟩
/-- a common part: not 0 if the second isn't, no greater than both -/
def CPt (a b : Int64) (h : HS) : Option Value → HS → Prop := fun o h' => (∃ r : Int64, o = some (.long r) ∧ (¬ b = 0 → ¬ r = 0) ∧ (r.toInt.natAbs ≤ a.toInt.natAbs ∨ r.toInt.natAbs ≤ b.toInt.natAbs)) ∧ h' = h
set_option maxHeartbeats 4000000 in
set_option maxRecDepth 100000 in
theorem lpX7_common {l : Launch} {g : Geo} {sta : Nat → Nat} {k : KT} (K : AOK (wM l g sta) mX7_common k) (h : HS) (a b : Int64) :
    ∀ (n : Nat) (x y : Int64), y.toInt.natAbs < n → (¬ b = 0 → ¬ (x = 0 ∧ y = 0)) → (x.toInt.natAbs ≤ a.toInt.natAbs ∨ x.toInt.natAbs ≤ b.toInt.natAbs) → (y.toInt.natAbs ≤ a.toInt.natAbs ∨ y.toInt.natAbs ≤ b.toInt.natAbs) → AW (wM l g sta) (CPt a b h) 1 mX7_common k 6 [some (.long a), none, some (.long b), none, some (.long x), none, some (.long y), none, none, none] [] h := by
  intro n
  induction n with
  | zero => intro x y k1; omega
  | succ n ih =>
    intro x y k1 k2 k3 k4
    refine aw_ll6 K dX7_common_6 ?_
    refine aw_lconst (v := 0) K dX7_common_8 (by decide) ?_
    refine aw_lcmp K dX7_common_9 ?_
    refine aw_if_eq (tgt := 31) K dX7_common_10 (by decide) (fun b10 => ?_) (fun b10 => ?_)
    · have hy : y = 0 := (lg_cmp_eq _ _).mp b10
      refine aw_ll4 K dX7_common_31 ?_
      refine aw_lret K rfl dX7_common_33 ?_
      exact ⟨⟨x, rfl, fun q z => k2 q ⟨z, hy⟩, k3⟩, rfl⟩
    · have hy : ¬ y = 0 := fun q => b10 ((lg_cmp_eq _ _).mpr q)
      refine aw_ll4 K dX7_common_13 ?_
      refine aw_ll6 K dX7_common_15 ?_
      refine aw_lrem K dX7_common_17 hy ?_
      refine aw_ls8 K dX7_common_18 (by decide) rfl ?_
      refine aw_ll6 K dX7_common_20 ?_
      refine aw_ls4 K dX7_common_22 (by decide) rfl ?_
      refine aw_ll8 K dX7_common_24 ?_
      refine aw_ls6 K dX7_common_26 (by decide) rfl ?_
      refine aw_goto (tgt := 6) K dX7_common_28 (by decide) ?_
      refine aw_sub [some (.long _), none, some (.long _), none, some (.long _), none, some (.long _), none, none, none] ⟨rfl, rfl, rfl, rfl, trivial⟩ ?_
      have q := lrem_lt (x := x) hy
      exact ih _ _ (by omega) (fun _ z => hy z.1) k4 (k4.imp (fun z => by omega) (fun z => by omega))
set_option maxHeartbeats 4000000 in
set_option maxRecDepth 100000 in
theorem tX7_common (l : Launch) (g : Geo) (sta : Nat → Nat) (h : HS) (a b : Int64) : CT (wM l g sta) 1 mX7_common [.long a, .long b] h (CPt a b h) := by
  refine CT.at [some (.long a), none, some (.long b), none, none, none, none, none, none, none] 6 rfl (by decide) (Nat.le_of_ble_eq_true rfl) (fun k K => ?_)
  refine aw_ll0 K dX7_common_0 ?_
  refine aw_ls4 K dX7_common_1 (by decide) rfl ?_
  refine aw_ll2 K dX7_common_3 ?_
  refine aw_ls6 K dX7_common_4 (by decide) rfl ?_
  exact lpX7_common K h a b (b.toInt.natAbs + 1) a b (by omega) (fun q z => q z.2) (Or.inl (Nat.le_refl _)) (Or.inr (Nat.le_refl _))

theorem l2i_ne {r : Int64} {M : Nat} (hr : ¬ r = 0) (h : r.toInt.natAbs ≤ M) (hM : M ≤ 2 ^ 31) : ¬ r.toInt32 = 0 := by
  intro q
  have e : r.toInt32.toInt = 0 := by rw [q]; rfl
  rw [Int64.toInt_toInt32] at e
  have h0 : ¬ r.toInt = 0 := fun z => hr (Int64.toInt_inj.mp (by rw [z]; rfl))
  have e2 := Int.dvd_of_bmod_eq_zero e
  obtain ⟨k, hk⟩ := e2
  have : k = 0 := by omega
  subst this
  omega
theorem abs32 (x : Int32) : x.toInt64.toInt.natAbs ≤ 2 ^ 31 := by
  rw [Int32.toInt_toInt64]
  have := Int32.toInt_lt x
  have := Int32.le_toInt x
  omega
set_option maxHeartbeats 4000000 in
set_option maxRecDepth 100000 in
theorem tX7_fraction (l : Launch) (g : Geo) (sta : Nat → Nat) (h : HS) (a b : Int32) (hw : ¬ h.1 0 36 = 0) : CT (wM l g sta) 3 mX7_fraction [.ref (g.2.1 0), .int a, .int b] h ((fun o h' => (∃ r : Int32, o = some (.int r)) ∧ h' = h)) := by
  refine CT.at [some (.ref (g.2.1 0)), some (.int a), some (.int b), none] 1 rfl (by decide) (Nat.le_of_ble_eq_true rfl) (fun k K => ?_)
  refine aw_il1 K dX7_fraction_0 ?_
  refine aw_i2l K dX7_fraction_1 ?_
  refine aw_al0 K dX7_fraction_2 ?_
  refine aw_getI K gX7_265 dX7_fraction_3 rfl rfl ?_
  refine aw_i2l K dX7_fraction_6 ?_
  refine aw_callS K (tX7_common l g sta _ _ _) rfl (by decide) fX7_common lX7_271 dX7_fraction_7 rfl (Nat.le_of_ble_eq_true rfl) (fun o h2 hq => ?_)
  obtain ⟨⟨r, rfl, hr, hm⟩, rfl⟩ := hq
  refine (show AW _ _ _ _ _ _ _ (.long r :: _) _ from ?_)
  skip
  refine aw_l2i K dX7_fraction_10 ?_
  have hr2 : ¬ r.toInt32 = 0 := l2i_ne (M := 2 ^ 31) (hr (fun q => hw (Int32.toInt_inj.mp (by rw [← Int32.toInt_toInt64, q]; rfl)))) (hm.elim (fun z => Nat.le_trans z (abs32 _)) (fun z => Nat.le_trans z (abs32 _))) (Nat.le_refl _)
  refine aw_is3 K dX7_fraction_11 (by decide) rfl ?_
  refine aw_il2 K dX7_fraction_12 ?_
  refine aw_iconst (v := 2) K dX7_fraction_13 (by decide) ?_
  refine aw_irem K dX7_fraction_14 (by decide) ?_
  refine aw_if_ne (tgt := 24) K dX7_fraction_15 (by decide) (fun b15 => ?_) (fun b15 => ?_)
  · refine aw_al0 K dX7_fraction_24 ?_
    refine aw_getI K gX7_265 dX7_fraction_25 rfl rfl ?_
    refine aw_il3 K dX7_fraction_28 ?_
    refine aw_idiv K dX7_fraction_29 hr2 ?_
    refine aw_iret K rfl dX7_fraction_30 ?_
    exact ⟨⟨_, rfl⟩, rfl⟩
  · refine aw_il1 K dX7_fraction_18 ?_
    refine aw_il3 K dX7_fraction_19 ?_
    refine aw_idiv K dX7_fraction_20 hr2 ?_
    refine aw_goto (tgt := 30) K dX7_fraction_21 (by decide) ?_
    refine aw_iret K rfl dX7_fraction_30 ?_
    exact ⟨⟨_, rfl⟩, rfl⟩

theorem wb_at {v : Nat → Nat → Int32} {Wn : Nat} {a b : Int32} (hw : Wn ≤ 24) (h : ¬ wbV v Wn a b Wn = -4) : vp_in (wbV v Wn a b Wn) 24 := by
  rcases wbV_in v Wn a b Wn with q | ⟨j, h1, h2⟩
  · exact absurd q h
  · rw [h2]
    exact vp_in_nI (by omega) (by decide)
/-- the words are the same behind a query -/
theorem MS.fi {h h' : HS} (q : MS h h') : ∀ w, isF h'.1 w = isF h.1 w := by
  intro w
  unfold isF
  rw [q.1 20 rfl]
theorem MS.cs {h h' : HS} (q : MS h h') (w : Nat) : ∀ n u, csV h'.1 w n u = csV h.1 w n u
  | 0, _ => rfl
  | n + 1, u => by
    unfold csV
    rw [q.1 18 rfl, q.1 19 rfl, q.fi u, MS.cs q w n (u + 1)]
theorem MS.ct {h h' : HS} (q : MS h h') (Wn w : Nat) : ctV h'.1 Wn w = ctV h.1 Wn w := by
  unfold ctV
  rw [q.fi w, q.cs w]
theorem MS.wb {h h' : HS} (q : MS h h') (Wn : Nat) (a b : Int32) : ∀ n, wbV h'.1 Wn a b n = wbV h.1 Wn a b n
  | 0 => rfl
  | n + 1 => by
    unfold wbV
    rw [q.1 18 rfl, q.1 19 rfl, q.ct Wn n, MS.wb q Wn a b n]
set_option maxHeartbeats 4000000 in
set_option maxRecDepth 100000 in
theorem tX7_weightOf (l : Launch) (g : Geo) (sta : Nat → Nat) (h : HS) (a b : Int32) {N T Wn : Nat} (H : MW h N T Wn) (hw : ¬ wbV h.1 Wn a b Wn = -4) : CT (wM l g sta) 7 mX7_weightOf [.ref (g.2.1 0), .int a, .int b] h (FSI h) := by
  refine CT.at [some (.ref (g.2.1 0)), some (.int a), some (.int b), none, none] 2 rfl (by decide) (Nat.le_of_ble_eq_true rfl) (fun k K => ?_)
  refine aw_al0 K dX7_weightOf_0 ?_
  refine aw_il2 K dX7_weightOf_1 ?_
  refine aw_callV_I K (tX7_sayersOf l g sta _ _ H) rfl (by decide) fX7_sayersOf lX7_256 dX7_weightOf_2 rfl clsX7 rfl (Nat.le_of_ble_eq_true rfl) ?_
  refine aw_iconst (v := 1) K dX7_weightOf_5 (by decide) ?_
  refine aw_il1 K dX7_weightOf_6 ?_
  refine aw_ishl K dX7_weightOf_7 ?_
  refine aw_iconst (v := 1) K dX7_weightOf_8 (by decide) ?_
  refine aw_isub K dX7_weightOf_9 ?_
  refine aw_iand K dX7_weightOf_10 ?_
  refine aw_is3 K dX7_weightOf_11 (by decide) rfl ?_
  refine aw_al0 K dX7_weightOf_12 ?_
  refine aw_il3 K dX7_weightOf_13 ?_
  refine aw_iconst (v := 1) K dX7_weightOf_14 (by decide) ?_
  refine aw_il1 K dX7_weightOf_15 ?_
  refine aw_ishl K dX7_weightOf_16 ?_
  refine aw_ior K dX7_weightOf_17 ?_
  refine aw_callV K (trF l g sta _ _ h H FS.rf) rfl (by decide) fX7_trustOf lX7_220 dX7_weightOf_18 rfl clsX7 rfl (Nat.le_of_ble_eq_true rfl) (fun o h2 hq => ?_)
  obtain ⟨⟨r, rfl⟩, hx2⟩ := hq
  refine (show AW _ _ _ _ _ _ _ (.int r :: _) _ from ?_)
  refine aw_al0 K dX7_weightOf_21 ?_
  refine aw_il3 K dX7_weightOf_22 ?_
  refine aw_callV K (trF l g sta _ _ h H hx2) rfl (by decide) fX7_trustOf lX7_220 dX7_weightOf_23 rfl clsX7 rfl (Nat.le_of_ble_eq_true rfl) (fun o h2 hq => ?_)
  obtain ⟨⟨r2, rfl⟩, hx3⟩ := hq
  refine (show AW _ _ _ _ _ _ _ (.int r2 :: _) _ from ?_)
  refine aw_isub K dX7_weightOf_26 ?_
  refine aw_is4 K dX7_weightOf_27 (by decide) rfl ?_
  refine aw_il4 K dX7_weightOf_29 ?_
  refine aw_al0 K dX7_weightOf_31 ?_
  refine aw_getR K gX7_41 dX7_weightOf_32 rfl rfl ?_
  refine aw_iconst (v := 5) K dX7_weightOf_35 (by decide) ?_
  refine aw_iald K dX7_weightOf_36 rfl (vp_in_nI (n := 5) (by decide) (by decide)) ?_
  refine aw_al0 K dX7_weightOf_37 ?_
  refine aw_getI K gX7_106 dX7_weightOf_38 rfl rfl ?_
  refine aw_al0 K dX7_weightOf_41 ?_
  refine aw_getR K gX7_74 dX7_weightOf_42 rfl rfl ?_
  refine aw_al0 K dX7_weightOf_45 ?_
  refine aw_il1 K dX7_weightOf_46 ?_
  refine aw_il2 K dX7_weightOf_47 ?_
  refine aw_callV_I K (tX7_wordBy l g sta _ _ _ (H.f hx3)) rfl (by decide) fX7_wordBy lX7_252 dX7_weightOf_48 rfl clsX7 rfl (Nat.le_of_ble_eq_true rfl) ?_
  refine aw_iald K dX7_weightOf_51 rfl (wb_at H.2.2.1.2 (by rw [hx3.ms.wb]; exact hw)) ?_
  refine aw_isub K dX7_weightOf_52 ?_
  refine aw_callS_I K (tX7_faded l g sta _ _ _ _) rfl (by decide) fX7_faded lX7_124 dX7_weightOf_53 rfl (Nat.le_of_ble_eq_true rfl) ?_
  refine aw_iret K rfl dX7_weightOf_56 ?_
  exact ⟨⟨_, rfl⟩, hx3⟩

theorem syV_on {v : Nat → Nat → Int32} {N Wn : Nat} {b : Int32} (hN : N ≤ 12) {a : Nat} (ha : a < 32) (h : (syV v N Wn b >>> (nI a &&& 31)) &&& 1 = 1) : a < N ∧ v 3 a = 0 ∧ ¬ wbV v Wn (nI a) b Wn = -4 := (syV_b hN ha).mp ((hb_i ha).mp (fun q => and1_n.mpr q h))
set_option maxHeartbeats 4000000 in
set_option maxRecDepth 100000 in
theorem tX7_weight (l : Launch) (g : Geo) (sta : Nat → Nat) (h : HS) (a b : Int32) {N T Wn : Nat} (H : MW h N T Wn) : CT (wM l g sta) 8 mX7_weight [.ref (g.2.1 0), .int a, .int b] h (MSI h) := by
  refine CT.at [some (.ref (g.2.1 0)), some (.int a), some (.int b)] 0 rfl (by decide) (Nat.le_of_ble_eq_true rfl) (fun k K => ?_)
  refine aw_al0 K dX7_weight_0 ?_
  refine aw_il1 K dX7_weight_1 ?_
  refine aw_callV_I K (tX7_isName l g sta _ _) rfl (by decide) fX7_isName lX7_111 dX7_weight_2 rfl clsX7 rfl (Nat.le_of_ble_eq_true rfl) ?_
  refine aw_if_eq (tgt := 21) K dX7_weight_5 (by decide) (fun b5 => ?_) (fun b5 => ?_)
  · refine aw_iconst (v := (-1)) K dX7_weight_21 (by decide) ?_
    refine aw_iret K rfl dX7_weight_22 ?_
    exact ⟨⟨_, rfl⟩, MS.rf⟩
  · refine aw_al0 K dX7_weight_8 ?_
    refine aw_il2 K dX7_weight_9 ?_
    refine aw_callV_I K (tX7_isName l g sta _ _) rfl (by decide) fX7_isName lX7_111 dX7_weight_10 rfl clsX7 rfl (Nat.le_of_ble_eq_true rfl) ?_
    refine aw_if_eq (tgt := 21) K dX7_weight_13 (by decide) (fun b13 => ?_) (fun b13 => ?_)
    · refine aw_iconst (v := (-1)) K dX7_weight_21 (by decide) ?_
      refine aw_iret K rfl dX7_weight_22 ?_
      exact ⟨⟨_, rfl⟩, MS.rf⟩
    · refine aw_il2 K dX7_weight_16 ?_
      refine aw_il1 K dX7_weight_17 ?_
      refine aw_icmp_ne (tgt := 23) K dX7_weight_18 (by decide) (fun b18 => ?_) (fun b18 => ?_)
      · refine aw_al0 K dX7_weight_23 ?_
        refine aw_il1 K dX7_weight_24 ?_
        refine aw_callV_I K (tX7_sayersOf l g sta _ _ H) rfl (by decide) fX7_sayersOf lX7_256 dX7_weight_25 rfl clsX7 rfl (Nat.le_of_ble_eq_true rfl) ?_
        refine aw_il2 K dX7_weight_28 ?_
        refine aw_ishr K dX7_weight_29 ?_
        refine aw_iconst (v := 1) K dX7_weight_30 (by decide) ?_
        refine aw_iand K dX7_weight_31 ?_
        refine aw_iconst (v := 1) K dX7_weight_32 (by decide) ?_
        refine aw_icmp_ne (tgt := 45) K dX7_weight_33 (by decide) (fun b33 => ?_) (fun b33 => ?_)
        · refine aw_bipush (v := (-4)) K dX7_weight_45 (by decide) ?_
          refine aw_iret K rfl dX7_weight_47 ?_
          exact ⟨⟨_, rfl⟩, MS.rf⟩
        · refine aw_al0 K dX7_weight_36 ?_
          refine aw_il2 K dX7_weight_37 ?_
          refine aw_il1 K dX7_weight_38 ?_
          obtain ⟨jb, hjb, rfl⟩ := inNj H.1.1 (by have := H.1.2; omega) (bI_1.mp b13)
          have hw := syV_on H.1.2 (by have := H.1.2; omega) b33
          refine aw_callV K (tX7_weightOf l g sta _ _ _ H hw.2.2) rfl (by decide) fX7_weightOf lX7_259 dX7_weight_39 rfl clsX7 rfl (Nat.le_of_ble_eq_true rfl) (fun o h2 hq => ?_)
          obtain ⟨⟨r, rfl⟩, hx⟩ := hq
          refine (show AW _ _ _ _ _ _ _ (.int r :: _) _ from ?_)
          refine aw_goto (tgt := 47) K dX7_weight_42 (by decide) ?_
          refine aw_iret K rfl dX7_weight_47 ?_
          exact ⟨⟨_, rfl⟩, hx.ms⟩
      · refine aw_iconst (v := (-1)) K dX7_weight_21 (by decide) ?_
        refine aw_iret K rfl dX7_weight_22 ?_
        exact ⟨⟨_, rfl⟩, MS.rf⟩

/-- listed so far -/
def LI (h : HS) (i : Nat) : Prop := ∃ c, c ≤ i ∧ h.1 0 33 = nI c
set_option maxHeartbeats 4000000 in
set_option maxRecDepth 100000 in
theorem lpX7_lists {l : Launch} {g : Geo} {sta : Nat → Nat} {k : KT} (K : AOK (wM l g sta) mX7_lists k) (h0 : HS) (b : Int32) {N T Wn : Nat} (H0 : MW h0 N T Wn) (s : Int32) (hs : s = syV h0.1 N Wn b) :
    ∀ (n i : Nat) (h : HS), i + n = N → MS h0 h → LI h i → AW (wM l g sta) (fun o h' => o = none ∧ MS h0 h' ∧ LI h' 12) 8 mX7_lists k 23 [some (.ref (g.2.1 0)), some (.int b), some (.int s), some (.int (nI i))] [] h := by
  intro n
  have h3 := H0.1.2
  induction n with
  | zero =>
    intro i h k1 hx hl
    have H := H0.q hx
    obtain rfl : i = N := by omega
    refine aw_il3 K dX7_lists_23 ?_
    refine aw_al0 K dX7_lists_24 ?_
    refine aw_getI K gX7_98 dX7_lists_25 rfl rfl ?_
    rw [H.1.1]
    refine aw_icmp_ge (tgt := 137) K dX7_lists_28 (by decide) (fun b28 => ?_) (fun b28 => ?_)
    · refine aw_vret K rfl dX7_lists_137 ?_
      exact ⟨rfl, hx, hl.imp (fun c z => ⟨by omega, z.2⟩)⟩
    · exact absurd (Int32.le_refl _) b28
  | succ n ih =>
    intro i h k1 hx hl
    have H := H0.q hx
    obtain ⟨c, hc, ec⟩ := hl
    refine aw_il3 K dX7_lists_23 ?_
    refine aw_al0 K dX7_lists_24 ?_
    refine aw_getI K gX7_98 dX7_lists_25 rfl rfl ?_
    rw [H.1.1]
    refine aw_icmp_ge (tgt := 137) K dX7_lists_28 (by decide) (fun b28 => ?_) (fun b28 => ?_)
    · exact absurd b28 (nI_ge (by omega) (by omega))
    · refine aw_il2 K dX7_lists_31 ?_
      refine aw_il3 K dX7_lists_32 ?_
      refine aw_ishr K dX7_lists_33 ?_
      refine aw_iconst (v := 1) K dX7_lists_34 (by decide) ?_
      refine aw_iand K dX7_lists_35 ?_
      refine aw_iconst (v := 1) K dX7_lists_36 (by decide) ?_
      refine aw_icmp_ne (tgt := 131) K dX7_lists_37 (by decide) (fun b37 => ?_) (fun b37 => ?_)
      · refine aw_ii3 (v := _ + 1) K dX7_lists_131 rfl (by decide) rfl ?_
        refine aw_goto (tgt := 23) K dX7_lists_134 (by decide) ?_
        rw [nI_1]
        exact ih (i + 1) h (by omega) hx ⟨c, by omega, ec⟩
      · rw [hs] at b37
        have hw := syV_on h3 (show i < 32 by omega) b37
        refine aw_al0 K dX7_lists_40 ?_
        refine aw_getR K gX7_77 dX7_lists_41 rfl rfl ?_
        refine aw_al0 K dX7_lists_44 ?_
        refine aw_getI K gX7_262 dX7_lists_45 rfl rfl ?_
        refine aw_al0 K dX7_lists_48 ?_
        refine aw_il3 K dX7_lists_49 ?_
        refine aw_il1 K dX7_lists_50 ?_
        refine aw_callV K (tX7_weightOf l g sta _ _ _ H (by rw [hx.wb]; exact hw.2.2)) rfl (by decide) fX7_weightOf lX7_259 dX7_lists_51 rfl clsX7 rfl (Nat.le_of_ble_eq_true rfl) (fun o h2 hq => ?_)
        obtain ⟨⟨r, rfl⟩, hf⟩ := hq
        have hx2 := hx.tr hf.ms
        have H2 := H0.q hx2
        have e2 : h2.1 0 33 = nI c := (congrFun (hf 0 rfl) 33).trans ec
        rw [ec]
        refine (show AW _ _ _ _ _ _ _ (.int r :: _) _ from ?_)
        refine aw_iast K dX7_lists_54 rfl (vp_in_nI (by omega) (by decide)) ?_
        refine aw_al0 K dX7_lists_55 ?_
        refine aw_getR K gX7_80 dX7_lists_56 rfl rfl ?_
        refine aw_al0 K dX7_lists_59 ?_
        refine aw_getI K gX7_262 dX7_lists_60 rfl rfl ?_
        refine aw_al0 K dX7_lists_63 ?_
        refine aw_getR K gX7_71 dX7_lists_64 rfl rfl ?_
        refine aw_al0 K dX7_lists_67 ?_
        refine aw_il3 K dX7_lists_68 ?_
        refine aw_il1 K dX7_lists_69 ?_
        refine aw_callV_I K (tX7_wordBy l g sta _ _ _ (H2.q (MS.rf.pt rfl (by decide)))) rfl (by decide) fX7_wordBy lX7_252 dX7_lists_70 rfl clsX7 rfl (Nat.le_of_ble_eq_true rfl) ?_
        rw [(MS.rf.pt (h := h2) (c0 := 23) (j0 := (nI c).toNatClampNeg) (v := r) rfl (by decide)).wb, hx2.wb]
        refine aw_iald K dX7_lists_73 rfl (wb_at H0.2.2.1.2 hw.2.2) ?_
        rw [show (setI h2 23 (nI c).toNatClampNeg r).1 0 33 = nI c from e2]
        refine aw_iast K dX7_lists_74 rfl (vp_in_nI (by omega) (by decide)) ?_
        refine aw_al0 K dX7_lists_75 ?_
        refine aw_dup K dX7_lists_76 rfl ?_
        refine aw_getI K gX7_265 dX7_lists_77 rfl rfl ?_
        refine aw_al0 K dX7_lists_80 ?_
        refine aw_getR K gX7_77 dX7_lists_81 rfl rfl ?_
        refine aw_al0 K dX7_lists_84 ?_
        refine aw_getI K gX7_262 dX7_lists_85 rfl rfl ?_
        refine aw_iald K dX7_lists_88 rfl (by rw [show ∀ a1 a2, (setI (setI h2 23 (nI c).toNatClampNeg r) 24 a1 a2).1 0 33 = nI c from fun _ _ => e2]; exact vp_in_nI (by omega) (by decide)) ?_
        refine aw_iadd K dX7_lists_89 ?_
        refine aw_putI K gX7_265 fpX7_36 dX7_lists_90 rfl rfl ?_
        refine aw_al0 K dX7_lists_93 ?_
        refine aw_dup K dX7_lists_94 rfl ?_
        refine aw_getI K gX7_268 dX7_lists_95 rfl rfl ?_
        refine aw_al0 K dX7_lists_98 ?_
        refine aw_getR K gX7_77 dX7_lists_99 rfl rfl ?_
        refine aw_al0 K dX7_lists_102 ?_
        refine aw_getI K gX7_262 dX7_lists_103 rfl rfl ?_
        refine aw_iald K dX7_lists_106 rfl (by rw [show ∀ a1 a2 a3, (setI (setI (setI h2 23 (nI c).toNatClampNeg r) 24 a1 a2) 0 36 a3).1 0 33 = nI c from fun _ _ _ => e2]; exact vp_in_nI (by omega) (by decide)) ?_
        refine aw_al0 K dX7_lists_107 ?_
        refine aw_getR K gX7_80 dX7_lists_108 rfl rfl ?_
        refine aw_al0 K dX7_lists_111 ?_
        refine aw_getI K gX7_262 dX7_lists_112 rfl rfl ?_
        refine aw_iald K dX7_lists_115 rfl (by rw [show ∀ a1 a2 a3, (setI (setI (setI h2 23 (nI c).toNatClampNeg r) 24 a1 a2) 0 36 a3).1 0 33 = nI c from fun _ _ _ => e2]; exact vp_in_nI (by omega) (by decide)) ?_
        refine aw_imul K dX7_lists_116 ?_
        refine aw_iadd K dX7_lists_117 ?_
        refine aw_putI K gX7_268 fpX7_37 dX7_lists_118 rfl rfl ?_
        refine aw_al0 K dX7_lists_121 ?_
        refine aw_dup K dX7_lists_122 rfl ?_
        refine aw_getI K gX7_262 dX7_lists_123 rfl rfl ?_
        refine aw_iconst (v := 1) K dX7_lists_126 (by decide) ?_
        refine aw_iadd K dX7_lists_127 ?_
        refine aw_putI K gX7_262 fpX7_33 dX7_lists_128 rfl rfl ?_
        refine aw_ii3 (v := _ + 1) K dX7_lists_131 rfl (by decide) rfl ?_
        refine aw_goto (tgt := 23) K dX7_lists_134 (by decide) ?_
        rw [nI_1]
        exact ih (i + 1) _ (by omega) (((((hx2.pt rfl (by decide)).pt rfl (by decide)).fl (Or.inr (Or.inl rfl))).fl (Or.inr (Or.inr rfl))).fl (Or.inl rfl)) ⟨c + 1, by omega, (congrArg (· + 1) e2).trans (nI_1 c)⟩
set_option maxHeartbeats 4000000 in
set_option maxRecDepth 100000 in
theorem tX7_lists (l : Launch) (g : Geo) (sta : Nat → Nat) (h : HS) (b : Int32) {N T Wn : Nat} (H : MW h N T Wn) : CT (wM l g sta) 8 mX7_lists [.ref (g.2.1 0), .int b] h ((fun o h' => o = none ∧ MS h h' ∧ LI h' 12)) := by
  refine CT.at [some (.ref (g.2.1 0)), some (.int b), none, none] 2 rfl (by decide) (Nat.le_of_ble_eq_true rfl) (fun k K => ?_)
  refine aw_al0 K dX7_lists_0 ?_
  refine aw_il1 K dX7_lists_1 ?_
  refine aw_callV_I K (tX7_sayersOf l g sta _ _ H) rfl (by decide) fX7_sayersOf lX7_256 dX7_lists_2 rfl clsX7 rfl (Nat.le_of_ble_eq_true rfl) ?_
  refine aw_is2 K dX7_lists_5 (by decide) rfl ?_
  refine aw_al0 K dX7_lists_6 ?_
  refine aw_iconst (v := 0) K dX7_lists_7 (by decide) ?_
  refine aw_putI K gX7_262 fpX7_33 dX7_lists_8 rfl rfl ?_
  refine aw_al0 K dX7_lists_11 ?_
  refine aw_iconst (v := 0) K dX7_lists_12 (by decide) ?_
  refine aw_putI K gX7_265 fpX7_36 dX7_lists_13 rfl rfl ?_
  refine aw_al0 K dX7_lists_16 ?_
  refine aw_iconst (v := 0) K dX7_lists_17 (by decide) ?_
  refine aw_putI K gX7_268 fpX7_37 dX7_lists_18 rfl rfl ?_
  refine aw_iconst (v := 0) K dX7_lists_21 (by decide) ?_
  refine aw_is3 K dX7_lists_22 (by decide) rfl ?_
  exact lpX7_lists K h b H _ rfl N 0 _ (by omega) (((MS.rf.fl (Or.inl rfl)).fl (Or.inr (Or.inl rfl))).fl (Or.inr (Or.inr rfl))) ⟨0, Nat.le_refl _, rfl⟩

set_option maxHeartbeats 4000000 in
set_option maxRecDepth 100000 in
theorem tX7_mark (l : Launch) (g : Geo) (sta : Nat → Nat) (h : HS) (a b : Int32) {N T Wn : Nat} (H : MW h N T Wn) : CT (wM l g sta) 9 mX7_mark [.ref (g.2.1 0), .int a, .int b] h (MSI h) := by
  refine CT.at [some (.ref (g.2.1 0)), some (.int a), some (.int b)] 0 rfl (by decide) (Nat.le_of_ble_eq_true rfl) (fun k K => ?_)
  refine aw_al0 K dX7_mark_0 ?_
  refine aw_il1 K dX7_mark_1 ?_
  refine aw_callV_I K (tX7_isName l g sta _ _) rfl (by decide) fX7_isName lX7_111 dX7_mark_2 rfl clsX7 rfl (Nat.le_of_ble_eq_true rfl) ?_
  refine aw_if_eq (tgt := 18) K dX7_mark_5 (by decide) (fun b5 => ?_) (fun b5 => ?_)
  · refine aw_iconst (v := (-1)) K dX7_mark_18 (by decide) ?_
    refine aw_iret K rfl dX7_mark_19 ?_
    exact ⟨⟨_, rfl⟩, MS.rf⟩
  · refine aw_il2 K dX7_mark_8 ?_
    refine aw_i2l K dX7_mark_9 ?_
    refine aw_lconst (v := 0) K dX7_mark_10 (by decide) ?_
    refine aw_lconst (v := 1) K dX7_mark_11 (by decide) ?_
    refine aw_callS_I K (in32 l g sta _ _ (0) (1) (by decide) (by decide)) rfl (by decide) fX7_in lX7_102 dX7_mark_12 rfl (Nat.le_of_ble_eq_true rfl) ?_
    refine aw_if_ne (tgt := 20) K dX7_mark_15 (by decide) (fun b15 => ?_) (fun b15 => ?_)
    · refine aw_al0 K dX7_mark_20 ?_
      refine aw_il1 K dX7_mark_21 ?_
      refine aw_callV K (tX7_lists l g sta _ _ H) rfl (by decide) fX7_lists lX7_275 dX7_mark_22 rfl clsX7 rfl (Nat.le_of_ble_eq_true rfl) (fun o h2 hq => ?_)
      obtain ⟨rfl, hx, hl⟩ := hq
      refine aw_al0 K dX7_mark_25 ?_
      refine aw_getI K gX7_265 dX7_mark_26 rfl rfl ?_
      refine aw_if_ne (tgt := 37) K dX7_mark_29 (by decide) (fun b29 => ?_) (fun b29 => ?_)
      · have hw := b29
        refine aw_al0 K dX7_mark_37 ?_
        refine aw_al0 K dX7_mark_38 ?_
        refine aw_getI K gX7_268 dX7_mark_39 rfl rfl ?_
        refine aw_il2 K dX7_mark_42 ?_
        refine aw_callV K (tX7_fraction l g sta _ _ _ hw) rfl (by decide) fX7_fraction lX7_279 dX7_mark_43 rfl clsX7 rfl (Nat.le_of_ble_eq_true rfl) (fun o h2 hq => ?_)
        obtain ⟨⟨r, rfl⟩, rfl⟩ := hq
        refine (show AW _ _ _ _ _ _ _ (.int r :: _) _ from ?_)
        refine aw_iret K rfl dX7_mark_46 ?_
        exact ⟨⟨_, rfl⟩, hx⟩
      · refine aw_bipush (v := (-4)) K dX7_mark_32 (by decide) ?_
        refine aw_goto (tgt := 46) K dX7_mark_34 (by decide) ?_
        refine aw_iret K rfl dX7_mark_46 ?_
        exact ⟨⟨_, rfl⟩, hx⟩
    · refine aw_iconst (v := (-1)) K dX7_mark_18 (by decide) ?_
      refine aw_iret K rfl dX7_mark_19 ?_
      exact ⟨⟨_, rfl⟩, MS.rf⟩

set_option maxHeartbeats 4000000 in
set_option maxRecDepth 100000 in
theorem lp2X7_moved {l : Launch} {g : Geo} {sta : Nat → Nat} {k : KT} {P : Option Value → HS → Prop} (K : AOK (wM l g sta) mX7_moved k) (h : HS) (a b so al it : Int32) (c : Nat) (hc : c ≤ 12) (ec : h.1 0 33 = nI c)
    (hk : ∀ be mo : Int32, AW (wM l g sta) P 1 mX7_moved k 133 [some (.ref (g.2.1 0)), some (.int a), some (.int b), some (.int so), some (.int al), some (.int it), some (.int be), some (.int mo), none, none, none] [] h) :
    ∀ (n i : Nat) (be mo : Int32), i + n = c → AW (wM l g sta) P 1 mX7_moved k 33 [some (.ref (g.2.1 0)), some (.int a), some (.int b), some (.int so), some (.int al), some (.int it), some (.int be), some (.int mo), some (.int (nI i)), none, none] [] h := by
  intro n
  induction n with
  | zero =>
    intro i be mo k1
    obtain rfl : i = c := by omega
    refine aw_il8 K dX7_moved_33 ?_
    refine aw_al0 K dX7_moved_35 ?_
    refine aw_getI K gX7_262 dX7_moved_36 rfl rfl ?_
    rw [ec]
    refine aw_icmp_ge (tgt := 133) K dX7_moved_39 (by decide) (fun b39 => ?_) (fun b39 => ?_)
    · refine aw_sub [some (.ref (g.2.1 0)), some (.int _), some (.int _), some (.int _), some (.int _), some (.int _), some (.int _), some (.int _), none, none, none] ⟨rfl, rfl, rfl, rfl, rfl, rfl, rfl, rfl, trivial⟩ ?_
      exact hk _ _
    · exact absurd (Int32.le_refl _) b39
  | succ n ih =>
    intro i be mo k1
    refine aw_il8 K dX7_moved_33 ?_
    refine aw_al0 K dX7_moved_35 ?_
    refine aw_getI K gX7_262 dX7_moved_36 rfl rfl ?_
    rw [ec]
    refine aw_icmp_ge (tgt := 133) K dX7_moved_39 (by decide) (fun b39 => ?_) (fun b39 => ?_)
    · exact absurd b39 (nI_ge (by omega) (by omega))
    · refine aw_al0 K dX7_moved_42 ?_
      refine aw_getR K gX7_77 dX7_moved_43 rfl rfl ?_
      refine aw_il8 K dX7_moved_46 ?_
      refine aw_iald K dX7_moved_48 rfl (vp_in_nI (by omega) (by decide)) ?_
      refine aw_il2 K dX7_moved_49 ?_
      refine aw_if_eq (tgt := 63) K dX7_moved_50 (by decide) (fun b50 => ?_) (fun b50 => ?_)
      · refine aw_bipush (v := 10) K dX7_moved_63 (by decide) ?_
        refine aw_al0 K dX7_moved_65 ?_
        refine aw_getR K gX7_80 dX7_moved_66 rfl rfl ?_
        refine aw_il8 K dX7_moved_69 ?_
        refine aw_iald K dX7_moved_71 rfl (vp_in_nI (by omega) (by decide)) ?_
        refine aw_isub K dX7_moved_72 ?_
        skip
        refine aw_imul K dX7_moved_73 ?_
        refine aw_is9 K dX7_moved_74 (by decide) rfl ?_
        refine aw_il3 K dX7_moved_76 ?_
        refine aw_il8 K dX7_moved_77 ?_
        refine aw_ishr K dX7_moved_79 ?_
        refine aw_iconst (v := 1) K dX7_moved_80 (by decide) ?_
        refine aw_iand K dX7_moved_81 ?_
        refine aw_if_ne (tgt := 96) K dX7_moved_82 (by decide) (fun b82 => ?_) (fun b82 => ?_)
        · refine aw_iconst (v := 0) K dX7_moved_96 (by decide) ?_
          refine aw_is10 K dX7_moved_97 (by decide) rfl ?_
          refine aw_il10 K dX7_moved_99 ?_
          refine aw_if_eq (tgt := 109) K dX7_moved_101 (by decide) (fun b101 => ?_) (fun b101 => ?_)
          · refine aw_il6 K dX7_moved_109 ?_
            refine aw_is6 K dX7_moved_111 (by decide) rfl ?_
            refine aw_il10 K dX7_moved_113 ?_
            refine aw_if_eq (tgt := 123) K dX7_moved_115 (by decide) (fun b115 => ?_) (fun b115 => ?_)
            · refine aw_il7 K dX7_moved_123 ?_
              refine aw_is7 K dX7_moved_125 (by decide) rfl ?_
              refine aw_ii8 (v := _ + 1) K dX7_moved_127 rfl (by decide) rfl ?_
              refine aw_goto (tgt := 33) K dX7_moved_130 (by decide) ?_
              rw [nI_1]
              refine aw_sub [some (.ref (g.2.1 0)), some (.int _), some (.int _), some (.int _), some (.int _), some (.int _), some (.int _), some (.int _), some (.int _), none, none] ⟨rfl, rfl, rfl, rfl, rfl, rfl, rfl, rfl, rfl, trivial⟩ ?_
              exact ih (i + 1) _ _ (by omega)
            · refine aw_il9 K dX7_moved_118 ?_
              refine aw_goto (tgt := 125) K dX7_moved_120 (by decide) ?_
              refine aw_is7 K dX7_moved_125 (by decide) rfl ?_
              refine aw_ii8 (v := _ + 1) K dX7_moved_127 rfl (by decide) rfl ?_
              refine aw_goto (tgt := 33) K dX7_moved_130 (by decide) ?_
              rw [nI_1]
              refine aw_sub [some (.ref (g.2.1 0)), some (.int _), some (.int _), some (.int _), some (.int _), some (.int _), some (.int _), some (.int _), some (.int _), none, none] ⟨rfl, rfl, rfl, rfl, rfl, rfl, rfl, rfl, rfl, trivial⟩ ?_
              exact ih (i + 1) _ _ (by omega)
          · refine aw_il8 K dX7_moved_104 ?_
            refine aw_goto (tgt := 111) K dX7_moved_106 (by decide) ?_
            refine aw_is6 K dX7_moved_111 (by decide) rfl ?_
            refine aw_il10 K dX7_moved_113 ?_
            refine aw_if_eq (tgt := 123) K dX7_moved_115 (by decide) (fun b115 => ?_) (fun b115 => ?_)
            · refine aw_il7 K dX7_moved_123 ?_
              refine aw_is7 K dX7_moved_125 (by decide) rfl ?_
              refine aw_ii8 (v := _ + 1) K dX7_moved_127 rfl (by decide) rfl ?_
              refine aw_goto (tgt := 33) K dX7_moved_130 (by decide) ?_
              rw [nI_1]
              refine aw_sub [some (.ref (g.2.1 0)), some (.int _), some (.int _), some (.int _), some (.int _), some (.int _), some (.int _), some (.int _), some (.int _), none, none] ⟨rfl, rfl, rfl, rfl, rfl, rfl, rfl, rfl, rfl, trivial⟩ ?_
              exact ih (i + 1) _ _ (by omega)
            · refine aw_il9 K dX7_moved_118 ?_
              refine aw_goto (tgt := 125) K dX7_moved_120 (by decide) ?_
              refine aw_is7 K dX7_moved_125 (by decide) rfl ?_
              refine aw_ii8 (v := _ + 1) K dX7_moved_127 rfl (by decide) rfl ?_
              refine aw_goto (tgt := 33) K dX7_moved_130 (by decide) ?_
              rw [nI_1]
              refine aw_sub [some (.ref (g.2.1 0)), some (.int _), some (.int _), some (.int _), some (.int _), some (.int _), some (.int _), some (.int _), some (.int _), none, none] ⟨rfl, rfl, rfl, rfl, rfl, rfl, rfl, rfl, rfl, trivial⟩ ?_
              exact ih (i + 1) _ _ (by omega)
        · refine aw_il9 K dX7_moved_85 ?_
          refine aw_il7 K dX7_moved_87 ?_
          refine aw_icmp_le (tgt := 96) K dX7_moved_89 (by decide) (fun b89 => ?_) (fun b89 => ?_)
          · refine aw_iconst (v := 0) K dX7_moved_96 (by decide) ?_
            refine aw_is10 K dX7_moved_97 (by decide) rfl ?_
            refine aw_il10 K dX7_moved_99 ?_
            refine aw_if_eq (tgt := 109) K dX7_moved_101 (by decide) (fun b101 => ?_) (fun b101 => ?_)
            · refine aw_il6 K dX7_moved_109 ?_
              refine aw_is6 K dX7_moved_111 (by decide) rfl ?_
              refine aw_il10 K dX7_moved_113 ?_
              refine aw_if_eq (tgt := 123) K dX7_moved_115 (by decide) (fun b115 => ?_) (fun b115 => ?_)
              · refine aw_il7 K dX7_moved_123 ?_
                refine aw_is7 K dX7_moved_125 (by decide) rfl ?_
                refine aw_ii8 (v := _ + 1) K dX7_moved_127 rfl (by decide) rfl ?_
                refine aw_goto (tgt := 33) K dX7_moved_130 (by decide) ?_
                rw [nI_1]
                refine aw_sub [some (.ref (g.2.1 0)), some (.int _), some (.int _), some (.int _), some (.int _), some (.int _), some (.int _), some (.int _), some (.int _), none, none] ⟨rfl, rfl, rfl, rfl, rfl, rfl, rfl, rfl, rfl, trivial⟩ ?_
                exact ih (i + 1) _ _ (by omega)
              · refine aw_il9 K dX7_moved_118 ?_
                refine aw_goto (tgt := 125) K dX7_moved_120 (by decide) ?_
                refine aw_is7 K dX7_moved_125 (by decide) rfl ?_
                refine aw_ii8 (v := _ + 1) K dX7_moved_127 rfl (by decide) rfl ?_
                refine aw_goto (tgt := 33) K dX7_moved_130 (by decide) ?_
                rw [nI_1]
                refine aw_sub [some (.ref (g.2.1 0)), some (.int _), some (.int _), some (.int _), some (.int _), some (.int _), some (.int _), some (.int _), some (.int _), none, none] ⟨rfl, rfl, rfl, rfl, rfl, rfl, rfl, rfl, rfl, trivial⟩ ?_
                exact ih (i + 1) _ _ (by omega)
            · refine aw_il8 K dX7_moved_104 ?_
              refine aw_goto (tgt := 111) K dX7_moved_106 (by decide) ?_
              refine aw_is6 K dX7_moved_111 (by decide) rfl ?_
              refine aw_il10 K dX7_moved_113 ?_
              refine aw_if_eq (tgt := 123) K dX7_moved_115 (by decide) (fun b115 => ?_) (fun b115 => ?_)
              · refine aw_il7 K dX7_moved_123 ?_
                refine aw_is7 K dX7_moved_125 (by decide) rfl ?_
                refine aw_ii8 (v := _ + 1) K dX7_moved_127 rfl (by decide) rfl ?_
                refine aw_goto (tgt := 33) K dX7_moved_130 (by decide) ?_
                rw [nI_1]
                refine aw_sub [some (.ref (g.2.1 0)), some (.int _), some (.int _), some (.int _), some (.int _), some (.int _), some (.int _), some (.int _), some (.int _), none, none] ⟨rfl, rfl, rfl, rfl, rfl, rfl, rfl, rfl, rfl, trivial⟩ ?_
                exact ih (i + 1) _ _ (by omega)
              · refine aw_il9 K dX7_moved_118 ?_
                refine aw_goto (tgt := 125) K dX7_moved_120 (by decide) ?_
                refine aw_is7 K dX7_moved_125 (by decide) rfl ?_
                refine aw_ii8 (v := _ + 1) K dX7_moved_127 rfl (by decide) rfl ?_
                refine aw_goto (tgt := 33) K dX7_moved_130 (by decide) ?_
                rw [nI_1]
                refine aw_sub [some (.ref (g.2.1 0)), some (.int _), some (.int _), some (.int _), some (.int _), some (.int _), some (.int _), some (.int _), some (.int _), none, none] ⟨rfl, rfl, rfl, rfl, rfl, rfl, rfl, rfl, rfl, trivial⟩ ?_
                exact ih (i + 1) _ _ (by omega)
          · refine aw_iconst (v := 1) K dX7_moved_92 (by decide) ?_
            refine aw_goto (tgt := 97) K dX7_moved_93 (by decide) ?_
            refine aw_is10 K dX7_moved_97 (by decide) rfl ?_
            refine aw_il10 K dX7_moved_99 ?_
            refine aw_if_eq (tgt := 109) K dX7_moved_101 (by decide) (fun b101 => ?_) (fun b101 => ?_)
            · refine aw_il6 K dX7_moved_109 ?_
              refine aw_is6 K dX7_moved_111 (by decide) rfl ?_
              refine aw_il10 K dX7_moved_113 ?_
              refine aw_if_eq (tgt := 123) K dX7_moved_115 (by decide) (fun b115 => ?_) (fun b115 => ?_)
              · refine aw_il7 K dX7_moved_123 ?_
                refine aw_is7 K dX7_moved_125 (by decide) rfl ?_
                refine aw_ii8 (v := _ + 1) K dX7_moved_127 rfl (by decide) rfl ?_
                refine aw_goto (tgt := 33) K dX7_moved_130 (by decide) ?_
                rw [nI_1]
                refine aw_sub [some (.ref (g.2.1 0)), some (.int _), some (.int _), some (.int _), some (.int _), some (.int _), some (.int _), some (.int _), some (.int _), none, none] ⟨rfl, rfl, rfl, rfl, rfl, rfl, rfl, rfl, rfl, trivial⟩ ?_
                exact ih (i + 1) _ _ (by omega)
              · refine aw_il9 K dX7_moved_118 ?_
                refine aw_goto (tgt := 125) K dX7_moved_120 (by decide) ?_
                refine aw_is7 K dX7_moved_125 (by decide) rfl ?_
                refine aw_ii8 (v := _ + 1) K dX7_moved_127 rfl (by decide) rfl ?_
                refine aw_goto (tgt := 33) K dX7_moved_130 (by decide) ?_
                rw [nI_1]
                refine aw_sub [some (.ref (g.2.1 0)), some (.int _), some (.int _), some (.int _), some (.int _), some (.int _), some (.int _), some (.int _), some (.int _), none, none] ⟨rfl, rfl, rfl, rfl, rfl, rfl, rfl, rfl, rfl, trivial⟩ ?_
                exact ih (i + 1) _ _ (by omega)
            · refine aw_il8 K dX7_moved_104 ?_
              refine aw_goto (tgt := 111) K dX7_moved_106 (by decide) ?_
              refine aw_is6 K dX7_moved_111 (by decide) rfl ?_
              refine aw_il10 K dX7_moved_113 ?_
              refine aw_if_eq (tgt := 123) K dX7_moved_115 (by decide) (fun b115 => ?_) (fun b115 => ?_)
              · refine aw_il7 K dX7_moved_123 ?_
                refine aw_is7 K dX7_moved_125 (by decide) rfl ?_
                refine aw_ii8 (v := _ + 1) K dX7_moved_127 rfl (by decide) rfl ?_
                refine aw_goto (tgt := 33) K dX7_moved_130 (by decide) ?_
                rw [nI_1]
                refine aw_sub [some (.ref (g.2.1 0)), some (.int _), some (.int _), some (.int _), some (.int _), some (.int _), some (.int _), some (.int _), some (.int _), none, none] ⟨rfl, rfl, rfl, rfl, rfl, rfl, rfl, rfl, rfl, trivial⟩ ?_
                exact ih (i + 1) _ _ (by omega)
              · refine aw_il9 K dX7_moved_118 ?_
                refine aw_goto (tgt := 125) K dX7_moved_120 (by decide) ?_
                refine aw_is7 K dX7_moved_125 (by decide) rfl ?_
                refine aw_ii8 (v := _ + 1) K dX7_moved_127 rfl (by decide) rfl ?_
                refine aw_goto (tgt := 33) K dX7_moved_130 (by decide) ?_
                rw [nI_1]
                refine aw_sub [some (.ref (g.2.1 0)), some (.int _), some (.int _), some (.int _), some (.int _), some (.int _), some (.int _), some (.int _), some (.int _), none, none] ⟨rfl, rfl, rfl, rfl, rfl, rfl, rfl, rfl, rfl, trivial⟩ ?_
                exact ih (i + 1) _ _ (by omega)
      · refine aw_al0 K dX7_moved_53 ?_
        refine aw_getR K gX7_80 dX7_moved_54 rfl rfl ?_
        refine aw_il8 K dX7_moved_57 ?_
        refine aw_iald K dX7_moved_59 rfl (vp_in_nI (by omega) (by decide)) ?_
        refine aw_goto (tgt := 73) K dX7_moved_60 (by decide) ?_
        skip
        refine aw_imul K dX7_moved_73 ?_
        refine aw_is9 K dX7_moved_74 (by decide) rfl ?_
        refine aw_il3 K dX7_moved_76 ?_
        refine aw_il8 K dX7_moved_77 ?_
        refine aw_ishr K dX7_moved_79 ?_
        refine aw_iconst (v := 1) K dX7_moved_80 (by decide) ?_
        refine aw_iand K dX7_moved_81 ?_
        refine aw_if_ne (tgt := 96) K dX7_moved_82 (by decide) (fun b82 => ?_) (fun b82 => ?_)
        · refine aw_iconst (v := 0) K dX7_moved_96 (by decide) ?_
          refine aw_is10 K dX7_moved_97 (by decide) rfl ?_
          refine aw_il10 K dX7_moved_99 ?_
          refine aw_if_eq (tgt := 109) K dX7_moved_101 (by decide) (fun b101 => ?_) (fun b101 => ?_)
          · refine aw_il6 K dX7_moved_109 ?_
            refine aw_is6 K dX7_moved_111 (by decide) rfl ?_
            refine aw_il10 K dX7_moved_113 ?_
            refine aw_if_eq (tgt := 123) K dX7_moved_115 (by decide) (fun b115 => ?_) (fun b115 => ?_)
            · refine aw_il7 K dX7_moved_123 ?_
              refine aw_is7 K dX7_moved_125 (by decide) rfl ?_
              refine aw_ii8 (v := _ + 1) K dX7_moved_127 rfl (by decide) rfl ?_
              refine aw_goto (tgt := 33) K dX7_moved_130 (by decide) ?_
              rw [nI_1]
              refine aw_sub [some (.ref (g.2.1 0)), some (.int _), some (.int _), some (.int _), some (.int _), some (.int _), some (.int _), some (.int _), some (.int _), none, none] ⟨rfl, rfl, rfl, rfl, rfl, rfl, rfl, rfl, rfl, trivial⟩ ?_
              exact ih (i + 1) _ _ (by omega)
            · refine aw_il9 K dX7_moved_118 ?_
              refine aw_goto (tgt := 125) K dX7_moved_120 (by decide) ?_
              refine aw_is7 K dX7_moved_125 (by decide) rfl ?_
              refine aw_ii8 (v := _ + 1) K dX7_moved_127 rfl (by decide) rfl ?_
              refine aw_goto (tgt := 33) K dX7_moved_130 (by decide) ?_
              rw [nI_1]
              refine aw_sub [some (.ref (g.2.1 0)), some (.int _), some (.int _), some (.int _), some (.int _), some (.int _), some (.int _), some (.int _), some (.int _), none, none] ⟨rfl, rfl, rfl, rfl, rfl, rfl, rfl, rfl, rfl, trivial⟩ ?_
              exact ih (i + 1) _ _ (by omega)
          · refine aw_il8 K dX7_moved_104 ?_
            refine aw_goto (tgt := 111) K dX7_moved_106 (by decide) ?_
            refine aw_is6 K dX7_moved_111 (by decide) rfl ?_
            refine aw_il10 K dX7_moved_113 ?_
            refine aw_if_eq (tgt := 123) K dX7_moved_115 (by decide) (fun b115 => ?_) (fun b115 => ?_)
            · refine aw_il7 K dX7_moved_123 ?_
              refine aw_is7 K dX7_moved_125 (by decide) rfl ?_
              refine aw_ii8 (v := _ + 1) K dX7_moved_127 rfl (by decide) rfl ?_
              refine aw_goto (tgt := 33) K dX7_moved_130 (by decide) ?_
              rw [nI_1]
              refine aw_sub [some (.ref (g.2.1 0)), some (.int _), some (.int _), some (.int _), some (.int _), some (.int _), some (.int _), some (.int _), some (.int _), none, none] ⟨rfl, rfl, rfl, rfl, rfl, rfl, rfl, rfl, rfl, trivial⟩ ?_
              exact ih (i + 1) _ _ (by omega)
            · refine aw_il9 K dX7_moved_118 ?_
              refine aw_goto (tgt := 125) K dX7_moved_120 (by decide) ?_
              refine aw_is7 K dX7_moved_125 (by decide) rfl ?_
              refine aw_ii8 (v := _ + 1) K dX7_moved_127 rfl (by decide) rfl ?_
              refine aw_goto (tgt := 33) K dX7_moved_130 (by decide) ?_
              rw [nI_1]
              refine aw_sub [some (.ref (g.2.1 0)), some (.int _), some (.int _), some (.int _), some (.int _), some (.int _), some (.int _), some (.int _), some (.int _), none, none] ⟨rfl, rfl, rfl, rfl, rfl, rfl, rfl, rfl, rfl, trivial⟩ ?_
              exact ih (i + 1) _ _ (by omega)
        · refine aw_il9 K dX7_moved_85 ?_
          refine aw_il7 K dX7_moved_87 ?_
          refine aw_icmp_le (tgt := 96) K dX7_moved_89 (by decide) (fun b89 => ?_) (fun b89 => ?_)
          · refine aw_iconst (v := 0) K dX7_moved_96 (by decide) ?_
            refine aw_is10 K dX7_moved_97 (by decide) rfl ?_
            refine aw_il10 K dX7_moved_99 ?_
            refine aw_if_eq (tgt := 109) K dX7_moved_101 (by decide) (fun b101 => ?_) (fun b101 => ?_)
            · refine aw_il6 K dX7_moved_109 ?_
              refine aw_is6 K dX7_moved_111 (by decide) rfl ?_
              refine aw_il10 K dX7_moved_113 ?_
              refine aw_if_eq (tgt := 123) K dX7_moved_115 (by decide) (fun b115 => ?_) (fun b115 => ?_)
              · refine aw_il7 K dX7_moved_123 ?_
                refine aw_is7 K dX7_moved_125 (by decide) rfl ?_
                refine aw_ii8 (v := _ + 1) K dX7_moved_127 rfl (by decide) rfl ?_
                refine aw_goto (tgt := 33) K dX7_moved_130 (by decide) ?_
                rw [nI_1]
                refine aw_sub [some (.ref (g.2.1 0)), some (.int _), some (.int _), some (.int _), some (.int _), some (.int _), some (.int _), some (.int _), some (.int _), none, none] ⟨rfl, rfl, rfl, rfl, rfl, rfl, rfl, rfl, rfl, trivial⟩ ?_
                exact ih (i + 1) _ _ (by omega)
              · refine aw_il9 K dX7_moved_118 ?_
                refine aw_goto (tgt := 125) K dX7_moved_120 (by decide) ?_
                refine aw_is7 K dX7_moved_125 (by decide) rfl ?_
                refine aw_ii8 (v := _ + 1) K dX7_moved_127 rfl (by decide) rfl ?_
                refine aw_goto (tgt := 33) K dX7_moved_130 (by decide) ?_
                rw [nI_1]
                refine aw_sub [some (.ref (g.2.1 0)), some (.int _), some (.int _), some (.int _), some (.int _), some (.int _), some (.int _), some (.int _), some (.int _), none, none] ⟨rfl, rfl, rfl, rfl, rfl, rfl, rfl, rfl, rfl, trivial⟩ ?_
                exact ih (i + 1) _ _ (by omega)
            · refine aw_il8 K dX7_moved_104 ?_
              refine aw_goto (tgt := 111) K dX7_moved_106 (by decide) ?_
              refine aw_is6 K dX7_moved_111 (by decide) rfl ?_
              refine aw_il10 K dX7_moved_113 ?_
              refine aw_if_eq (tgt := 123) K dX7_moved_115 (by decide) (fun b115 => ?_) (fun b115 => ?_)
              · refine aw_il7 K dX7_moved_123 ?_
                refine aw_is7 K dX7_moved_125 (by decide) rfl ?_
                refine aw_ii8 (v := _ + 1) K dX7_moved_127 rfl (by decide) rfl ?_
                refine aw_goto (tgt := 33) K dX7_moved_130 (by decide) ?_
                rw [nI_1]
                refine aw_sub [some (.ref (g.2.1 0)), some (.int _), some (.int _), some (.int _), some (.int _), some (.int _), some (.int _), some (.int _), some (.int _), none, none] ⟨rfl, rfl, rfl, rfl, rfl, rfl, rfl, rfl, rfl, trivial⟩ ?_
                exact ih (i + 1) _ _ (by omega)
              · refine aw_il9 K dX7_moved_118 ?_
                refine aw_goto (tgt := 125) K dX7_moved_120 (by decide) ?_
                refine aw_is7 K dX7_moved_125 (by decide) rfl ?_
                refine aw_ii8 (v := _ + 1) K dX7_moved_127 rfl (by decide) rfl ?_
                refine aw_goto (tgt := 33) K dX7_moved_130 (by decide) ?_
                rw [nI_1]
                refine aw_sub [some (.ref (g.2.1 0)), some (.int _), some (.int _), some (.int _), some (.int _), some (.int _), some (.int _), some (.int _), some (.int _), none, none] ⟨rfl, rfl, rfl, rfl, rfl, rfl, rfl, rfl, rfl, trivial⟩ ?_
                exact ih (i + 1) _ _ (by omega)
          · refine aw_iconst (v := 1) K dX7_moved_92 (by decide) ?_
            refine aw_goto (tgt := 97) K dX7_moved_93 (by decide) ?_
            refine aw_is10 K dX7_moved_97 (by decide) rfl ?_
            refine aw_il10 K dX7_moved_99 ?_
            refine aw_if_eq (tgt := 109) K dX7_moved_101 (by decide) (fun b101 => ?_) (fun b101 => ?_)
            · refine aw_il6 K dX7_moved_109 ?_
              refine aw_is6 K dX7_moved_111 (by decide) rfl ?_
              refine aw_il10 K dX7_moved_113 ?_
              refine aw_if_eq (tgt := 123) K dX7_moved_115 (by decide) (fun b115 => ?_) (fun b115 => ?_)
              · refine aw_il7 K dX7_moved_123 ?_
                refine aw_is7 K dX7_moved_125 (by decide) rfl ?_
                refine aw_ii8 (v := _ + 1) K dX7_moved_127 rfl (by decide) rfl ?_
                refine aw_goto (tgt := 33) K dX7_moved_130 (by decide) ?_
                rw [nI_1]
                refine aw_sub [some (.ref (g.2.1 0)), some (.int _), some (.int _), some (.int _), some (.int _), some (.int _), some (.int _), some (.int _), some (.int _), none, none] ⟨rfl, rfl, rfl, rfl, rfl, rfl, rfl, rfl, rfl, trivial⟩ ?_
                exact ih (i + 1) _ _ (by omega)
              · refine aw_il9 K dX7_moved_118 ?_
                refine aw_goto (tgt := 125) K dX7_moved_120 (by decide) ?_
                refine aw_is7 K dX7_moved_125 (by decide) rfl ?_
                refine aw_ii8 (v := _ + 1) K dX7_moved_127 rfl (by decide) rfl ?_
                refine aw_goto (tgt := 33) K dX7_moved_130 (by decide) ?_
                rw [nI_1]
                refine aw_sub [some (.ref (g.2.1 0)), some (.int _), some (.int _), some (.int _), some (.int _), some (.int _), some (.int _), some (.int _), some (.int _), none, none] ⟨rfl, rfl, rfl, rfl, rfl, rfl, rfl, rfl, rfl, trivial⟩ ?_
                exact ih (i + 1) _ _ (by omega)
            · refine aw_il8 K dX7_moved_104 ?_
              refine aw_goto (tgt := 111) K dX7_moved_106 (by decide) ?_
              refine aw_is6 K dX7_moved_111 (by decide) rfl ?_
              refine aw_il10 K dX7_moved_113 ?_
              refine aw_if_eq (tgt := 123) K dX7_moved_115 (by decide) (fun b115 => ?_) (fun b115 => ?_)
              · refine aw_il7 K dX7_moved_123 ?_
                refine aw_is7 K dX7_moved_125 (by decide) rfl ?_
                refine aw_ii8 (v := _ + 1) K dX7_moved_127 rfl (by decide) rfl ?_
                refine aw_goto (tgt := 33) K dX7_moved_130 (by decide) ?_
                rw [nI_1]
                refine aw_sub [some (.ref (g.2.1 0)), some (.int _), some (.int _), some (.int _), some (.int _), some (.int _), some (.int _), some (.int _), some (.int _), none, none] ⟨rfl, rfl, rfl, rfl, rfl, rfl, rfl, rfl, rfl, trivial⟩ ?_
                exact ih (i + 1) _ _ (by omega)
              · refine aw_il9 K dX7_moved_118 ?_
                refine aw_goto (tgt := 125) K dX7_moved_120 (by decide) ?_
                refine aw_is7 K dX7_moved_125 (by decide) rfl ?_
                refine aw_ii8 (v := _ + 1) K dX7_moved_127 rfl (by decide) rfl ?_
                refine aw_goto (tgt := 33) K dX7_moved_130 (by decide) ?_
                rw [nI_1]
                refine aw_sub [some (.ref (g.2.1 0)), some (.int _), some (.int _), some (.int _), some (.int _), some (.int _), some (.int _), some (.int _), some (.int _), none, none] ⟨rfl, rfl, rfl, rfl, rfl, rfl, rfl, rfl, rfl, trivial⟩ ?_
                exact ih (i + 1) _ _ (by omega)
set_option maxHeartbeats 4000000 in
set_option maxRecDepth 100000 in
theorem lp1X7_moved {l : Launch} {g : Geo} {sta : Nat → Nat} {k : KT} (K : AOK (wM l g sta) mX7_moved k) (h : HS) (a b : Int32) (c : Nat) (hc : c ≤ 12) (ec : h.1 0 33 = nI c) :
    ∀ (n i : Nat) (so al : Int32), i + n = c → AW (wM l g sta) (AI h) 1 mX7_moved k 8 [some (.ref (g.2.1 0)), some (.int a), some (.int b), some (.int so), some (.int al), some (.int (nI i)), none, none, none, none, none] [] h := by
  intro n
  induction n with
  | zero =>
    intro i so al k1
    obtain rfl : i = c := by omega
    refine aw_il5 K dX7_moved_8 ?_
    refine aw_il1 K dX7_moved_10 ?_
    refine aw_icmp_ge (tgt := 153) K dX7_moved_11 (by decide) (fun b11 => ?_) (fun b11 => ?_)
    · refine aw_il4 K dX7_moved_153 ?_
      refine aw_iret K rfl dX7_moved_155 ?_
      exact ⟨⟨_, rfl⟩, rfl⟩
    · refine aw_il5 K dX7_moved_14 ?_
      refine aw_al0 K dX7_moved_16 ?_
      refine aw_getI K gX7_262 dX7_moved_17 rfl rfl ?_
      rw [ec]
      refine aw_icmp_ge (tgt := 153) K dX7_moved_20 (by decide) (fun b20 => ?_) (fun b20 => ?_)
      · refine aw_il4 K dX7_moved_153 ?_
        refine aw_iret K rfl dX7_moved_155 ?_
        exact ⟨⟨_, rfl⟩, rfl⟩
      · exact absurd (Int32.le_refl _) b20
  | succ n ih =>
    intro i so al k1
    refine aw_il5 K dX7_moved_8 ?_
    refine aw_il1 K dX7_moved_10 ?_
    refine aw_icmp_ge (tgt := 153) K dX7_moved_11 (by decide) (fun b11 => ?_) (fun b11 => ?_)
    · refine aw_il4 K dX7_moved_153 ?_
      refine aw_iret K rfl dX7_moved_155 ?_
      exact ⟨⟨_, rfl⟩, rfl⟩
    · refine aw_il5 K dX7_moved_14 ?_
      refine aw_al0 K dX7_moved_16 ?_
      refine aw_getI K gX7_262 dX7_moved_17 rfl rfl ?_
      rw [ec]
      refine aw_icmp_ge (tgt := 153) K dX7_moved_20 (by decide) (fun b20 => ?_) (fun b20 => ?_)
      · exact absurd b20 (nI_ge (by omega) (by omega))
      · refine aw_bipush (v := (-4)) K dX7_moved_23 (by decide) ?_
        refine aw_is6 K dX7_moved_25 (by decide) rfl ?_
        refine aw_iconst (v := (-1)) K dX7_moved_27 (by decide) ?_
        refine aw_is7 K dX7_moved_28 (by decide) rfl ?_
        refine aw_iconst (v := 0) K dX7_moved_30 (by decide) ?_
        refine aw_is8 K dX7_moved_31 (by decide) rfl ?_
        refine lp2X7_moved K h a b so al _ c hc ec (fun be mo => ?_) c 0 _ _ (by omega)
        refine aw_il3 K dX7_moved_133 ?_
        refine aw_iconst (v := 1) K dX7_moved_134 (by decide) ?_
        refine aw_il6 K dX7_moved_135 ?_
        refine aw_ishl K dX7_moved_137 ?_
        refine aw_ior K dX7_moved_138 ?_
        refine aw_is3 K dX7_moved_139 (by decide) rfl ?_
        refine aw_il4 K dX7_moved_140 ?_
        refine aw_il7 K dX7_moved_142 ?_
        refine aw_iadd K dX7_moved_144 ?_
        refine aw_is4 K dX7_moved_145 (by decide) rfl ?_
        refine aw_ii5 (v := _ + 1) K dX7_moved_147 rfl (by decide) rfl ?_
        refine aw_goto (tgt := 8) K dX7_moved_150 (by decide) ?_
        rw [nI_1]
        refine aw_sub [some (.ref (g.2.1 0)), some (.int _), some (.int _), some (.int _), some (.int _), some (.int _), none, none, none, none, none] ⟨rfl, rfl, rfl, rfl, rfl, rfl, trivial⟩ ?_
        exact ih (i + 1) _ _ (by omega)
set_option maxHeartbeats 4000000 in
set_option maxRecDepth 100000 in
theorem tX7_moved (l : Launch) (g : Geo) (sta : Nat → Nat) (h : HS) (a b : Int32) (hl : LI h 12) : CT (wM l g sta) 1 mX7_moved [.ref (g.2.1 0), .int a, .int b] h (AI h) := by
  refine CT.at [some (.ref (g.2.1 0)), some (.int a), some (.int b), none, none, none, none, none, none, none, none] 8 rfl (by decide) (Nat.le_of_ble_eq_true rfl) (fun k K => ?_)
  refine aw_iconst (v := 0) K dX7_moved_0 (by decide) ?_
  refine aw_is3 K dX7_moved_1 (by decide) rfl ?_
  refine aw_iconst (v := 0) K dX7_moved_2 (by decide) ?_
  refine aw_is4 K dX7_moved_3 (by decide) rfl ?_
  refine aw_iconst (v := 0) K dX7_moved_5 (by decide) ?_
  refine aw_is5 K dX7_moved_6 (by decide) rfl ?_
  obtain ⟨c, hc, ec⟩ := hl
  exact lp1X7_moved K h a b c hc ec c 0 0 0 (by omega)

set_option maxHeartbeats 4000000 in
set_option maxRecDepth 100000 in
theorem tX7_span (l : Launch) (g : Geo) (sta : Nat → Nat) (h : HS) (a b c : Int32) {N T Wn : Nat} (H : MW h N T Wn) : CT (wM l g sta) 9 mX7_span [.ref (g.2.1 0), .int a, .int b, .int c] h (MSI h) := by
  refine CT.at [some (.ref (g.2.1 0)), some (.int a), some (.int b), some (.int c)] 0 rfl (by decide) (Nat.le_of_ble_eq_true rfl) (fun k K => ?_)
  refine aw_al0 K dX7_span_0 ?_
  refine aw_il1 K dX7_span_1 ?_
  refine aw_callV_I K (tX7_isName l g sta _ _) rfl (by decide) fX7_isName lX7_111 dX7_span_2 rfl clsX7 rfl (Nat.le_of_ble_eq_true rfl) ?_
  refine aw_if_eq (tgt := 32) K dX7_span_5 (by decide) (fun b5 => ?_) (fun b5 => ?_)
  · refine aw_iconst (v := (-1)) K dX7_span_32 (by decide) ?_
    refine aw_iret K rfl dX7_span_33 ?_
    exact ⟨⟨_, rfl⟩, MS.rf⟩
  · refine aw_il2 K dX7_span_8 ?_
    refine aw_i2l K dX7_span_9 ?_
    refine aw_lconst (v := 0) K dX7_span_10 (by decide) ?_
    refine aw_ldc2 K qX7_119 dX7_span_11 ?_
    refine aw_callS_I K (in32 l g sta _ _ (0) (3) (by decide) (by decide)) rfl (by decide) fX7_in lX7_102 dX7_span_14 rfl (Nat.le_of_ble_eq_true rfl) ?_
    refine aw_if_eq (tgt := 32) K dX7_span_17 (by decide) (fun b17 => ?_) (fun b17 => ?_)
    · refine aw_iconst (v := (-1)) K dX7_span_32 (by decide) ?_
      refine aw_iret K rfl dX7_span_33 ?_
      exact ⟨⟨_, rfl⟩, MS.rf⟩
    · refine aw_il3 K dX7_span_20 ?_
      refine aw_i2l K dX7_span_21 ?_
      refine aw_lconst (v := 0) K dX7_span_22 (by decide) ?_
      refine aw_ldc2 K qX7_119 dX7_span_23 ?_
      refine aw_callS_I K (in32 l g sta _ _ (0) (3) (by decide) (by decide)) rfl (by decide) fX7_in lX7_102 dX7_span_26 rfl (Nat.le_of_ble_eq_true rfl) ?_
      refine aw_if_ne (tgt := 34) K dX7_span_29 (by decide) (fun b29 => ?_) (fun b29 => ?_)
      · refine aw_al0 K dX7_span_34 ?_
        refine aw_il1 K dX7_span_35 ?_
        refine aw_callV K (tX7_lists l g sta _ _ H) rfl (by decide) fX7_lists lX7_275 dX7_span_36 rfl clsX7 rfl (Nat.le_of_ble_eq_true rfl) (fun o h2 hq => ?_)
        obtain ⟨rfl, hx, hl⟩ := hq
        refine aw_al0 K dX7_span_39 ?_
        refine aw_getI K gX7_265 dX7_span_40 rfl rfl ?_
        refine aw_if_ne (tgt := 49) K dX7_span_43 (by decide) (fun b43 => ?_) (fun b43 => ?_)
        · have hw := b43
          refine aw_il3 K dX7_span_49 ?_
          refine aw_iconst (v := 2) K dX7_span_50 (by decide) ?_
          refine aw_icmp_ge (tgt := 73) K dX7_span_51 (by decide) (fun b51 => ?_) (fun b51 => ?_)
          · refine aw_al0 K dX7_span_73 ?_
            refine aw_al0 K dX7_span_74 ?_
            refine aw_getI K gX7_268 dX7_span_75 rfl rfl ?_
            refine aw_al0 K dX7_span_78 ?_
            refine aw_il2 K dX7_span_79 ?_
            refine aw_iconst (v := 0) K dX7_span_80 (by decide) ?_
            refine aw_callV K (tX7_moved l g sta _ _ _ hl) rfl (by decide) fX7_moved lX7_282 dX7_span_81 rfl clsX7 rfl (Nat.le_of_ble_eq_true rfl) (fun o h2 hq => ?_)
            obtain ⟨⟨r, rfl⟩, rfl⟩ := hq
            refine (show AW _ _ _ _ _ _ _ (.int r :: _) _ from ?_)
            refine aw_iadd K dX7_span_84 ?_
            refine aw_il3 K dX7_span_85 ?_
            refine aw_callV K (tX7_fraction l g sta _ _ _ hw) rfl (by decide) fX7_fraction lX7_279 dX7_span_86 rfl clsX7 rfl (Nat.le_of_ble_eq_true rfl) (fun o h2 hq => ?_)
            obtain ⟨⟨r2, rfl⟩, rfl⟩ := hq
            refine (show AW _ _ _ _ _ _ _ (.int r2 :: _) _ from ?_)
            refine aw_iret K rfl dX7_span_89 ?_
            exact ⟨⟨_, rfl⟩, hx⟩
          · refine aw_al0 K dX7_span_54 ?_
            refine aw_al0 K dX7_span_55 ?_
            refine aw_getI K gX7_268 dX7_span_56 rfl rfl ?_
            refine aw_al0 K dX7_span_59 ?_
            refine aw_il2 K dX7_span_60 ?_
            refine aw_iconst (v := 1) K dX7_span_61 (by decide) ?_
            refine aw_callV K (tX7_moved l g sta _ _ _ hl) rfl (by decide) fX7_moved lX7_282 dX7_span_62 rfl clsX7 rfl (Nat.le_of_ble_eq_true rfl) (fun o h2 hq => ?_)
            obtain ⟨⟨r, rfl⟩, rfl⟩ := hq
            refine (show AW _ _ _ _ _ _ _ (.int r :: _) _ from ?_)
            refine aw_isub K dX7_span_65 ?_
            refine aw_il3 K dX7_span_66 ?_
            refine aw_callV K (tX7_fraction l g sta _ _ _ hw) rfl (by decide) fX7_fraction lX7_279 dX7_span_67 rfl clsX7 rfl (Nat.le_of_ble_eq_true rfl) (fun o h2 hq => ?_)
            obtain ⟨⟨r2, rfl⟩, rfl⟩ := hq
            refine (show AW _ _ _ _ _ _ _ (.int r2 :: _) _ from ?_)
            refine aw_goto (tgt := 89) K dX7_span_70 (by decide) ?_
            refine aw_iret K rfl dX7_span_89 ?_
            exact ⟨⟨_, rfl⟩, hx⟩
        · refine aw_bipush (v := (-4)) K dX7_span_46 (by decide) ?_
          refine aw_iret K rfl dX7_span_48 ?_
          exact ⟨⟨_, rfl⟩, hx⟩
      · refine aw_iconst (v := (-1)) K dX7_span_32 (by decide) ?_
        refine aw_iret K rfl dX7_span_33 ?_
        exact ⟨⟨_, rfl⟩, MS.rf⟩

abbrev btwP (v : Nat → Nat → Int32) (s : Int32) (w : Nat) : Prop := ((s >>> (v 18 w &&& 31)) &&& (s >>> (v 19 w &&& 31))) &&& 1 = 1
abbrev gdP (v : Nat → Nat → Int32) (w : Nat) : Prop := v 11 9 ≤ v 21 w
abbrev rgP (v : Nat → Nat → Int32) (s b : Int32) (w : Nat) : Prop := b = 0 ∨ (b = 1 ∧ btwP v s w) ∨ (b = 2 ∧ gdP v w) ∨ (b = 3 ∧ gdP v w ∧ btwP v s w)
def rgV (v : Nat → Nat → Int32) (s b : Int32) (n : Nat) : Int32 := sumU (fun w => bI (rgP v s b w)) n
theorem sumB {f : Nat → Int32} (hf : ∀ w, f w = 0 ∨ f w = 1) : ∀ n, ∃ j, j ≤ n ∧ sumU f n = nI j
  | 0 => ⟨0, Nat.le_refl _, rfl⟩
  | n + 1 => by
    obtain ⟨j, h1, h2⟩ := sumB hf n
    rcases hf n with q | q
    · exact ⟨j, by omega, by unfold sumU; rw [h2, q, Int32.add_zero]⟩
    · exact ⟨j + 1, by omega, by unfold sumU; rw [h2, q, nI_1]⟩
theorem bI_01 (p : Prop) [Decidable p] : bI p = 0 ∨ bI p = 1 := by
  unfold bI
  split
  · exact Or.inr rfl
  · exact Or.inl rfl
theorem rgV_in (v : Nat → Nat → Int32) (s b : Int32) (n : Nat) : ∃ j, j ≤ n ∧ rgV v s b n = nI j := sumB (fun w => bI_01 _) n
theorem rgV_0 (v : Nat → Nat → Int32) (s : Int32) : ∀ n, rgV v s 0 n = nI n
  | 0 => rfl
  | n + 1 => by
    show rgV v s 0 n + bI _ = _
    rw [rgV_0 v s n, bI_t (Or.inl rfl), nI_1]
set_option maxHeartbeats 4000000 in
set_option maxRecDepth 100000 in
theorem tX7_isGood (l : Launch) (g : Geo) (sta : Nat → Nat) (h : HS) (w0 : Nat) (hw : w0 < 24) : CT (wM l g sta) 1 mX7_isGood [.ref (g.2.1 0), .int (nI w0)] h (DI (bI (gdP h.1 w0)) h) := by
  refine CT.at [some (.ref (g.2.1 0)), some (.int (nI w0))] 0 rfl (by decide) (Nat.le_of_ble_eq_true rfl) (fun k K => ?_)
  refine aw_al0 K dX7_isGood_0 ?_
  refine aw_getR K gX7_71 dX7_isGood_1 rfl rfl ?_
  refine aw_il1 K dX7_isGood_4 ?_
  refine aw_iald K dX7_isGood_5 rfl (vp_in_nI (by omega) (by decide)) ?_
  rw [nI_clamp (show w0 < 2 ^ 31 by omega)]
  refine aw_al0 K dX7_isGood_6 ?_
  refine aw_getR K gX7_41 dX7_isGood_7 rfl rfl ?_
  refine aw_bipush (v := 9) K dX7_isGood_10 (by decide) ?_
  refine aw_iald K dX7_isGood_12 rfl (vp_in_nI (n := 9) (by decide) (by decide)) ?_
  refine aw_icmp_lt (tgt := 20) K dX7_isGood_13 (by decide) (fun b13 => ?_) (fun b13 => ?_)
  · refine aw_iconst (v := 0) K dX7_isGood_20 (by decide) ?_
    refine aw_zret K rfl dX7_isGood_21 (by first | rfl | exact bI_nar _) ?_
    exact ⟨congrArg some (congrArg Value.int (bI_f (fun q => Int32.not_le.mpr b13 q)).symm), rfl⟩
  · refine aw_iconst (v := 1) K dX7_isGood_16 (by decide) ?_
    refine aw_goto (tgt := 21) K dX7_isGood_17 (by decide) ?_
    refine aw_zret K rfl dX7_isGood_21 (by first | rfl | exact bI_nar _) ?_
    exact ⟨congrArg some (congrArg Value.int (bI_t (Int32.not_lt.mp b13)).symm), rfl⟩

set_option maxHeartbeats 4000000 in
set_option maxRecDepth 100000 in
theorem tX7_isBetween (l : Launch) (g : Geo) (sta : Nat → Nat) (h : HS) (w0 : Nat) (hw : w0 < 24) (s : Int32) : CT (wM l g sta) 1 mX7_isBetween [.ref (g.2.1 0), .int (nI w0), .int s] h (DI (bI (btwP h.1 s w0)) h) := by
  refine CT.at [some (.ref (g.2.1 0)), some (.int (nI w0)), some (.int s)] 0 rfl (by decide) (Nat.le_of_ble_eq_true rfl) (fun k K => ?_)
  refine aw_il2 K dX7_isBetween_0 ?_
  refine aw_al0 K dX7_isBetween_1 ?_
  refine aw_getR K gX7_62 dX7_isBetween_2 rfl rfl ?_
  refine aw_il1 K dX7_isBetween_5 ?_
  refine aw_iald K dX7_isBetween_6 rfl (vp_in_nI (by omega) (by decide)) ?_
  rw [nI_clamp (show w0 < 2 ^ 31 by omega)]
  refine aw_ishr K dX7_isBetween_7 ?_
  refine aw_il2 K dX7_isBetween_8 ?_
  refine aw_al0 K dX7_isBetween_9 ?_
  refine aw_getR K gX7_65 dX7_isBetween_10 rfl rfl ?_
  refine aw_il1 K dX7_isBetween_13 ?_
  refine aw_iald K dX7_isBetween_14 rfl (vp_in_nI (by omega) (by decide)) ?_
  rw [nI_clamp (show w0 < 2 ^ 31 by omega)]
  refine aw_ishr K dX7_isBetween_15 ?_
  refine aw_iand K dX7_isBetween_16 ?_
  refine aw_iconst (v := 1) K dX7_isBetween_17 (by decide) ?_
  refine aw_iand K dX7_isBetween_18 ?_
  refine aw_iconst (v := 1) K dX7_isBetween_19 (by decide) ?_
  refine aw_icmp_ne (tgt := 27) K dX7_isBetween_20 (by decide) (fun b20 => ?_) (fun b20 => ?_)
  · refine aw_iconst (v := 0) K dX7_isBetween_27 (by decide) ?_
    refine aw_zret K rfl dX7_isBetween_28 (by first | rfl | exact bI_nar _) ?_
    exact ⟨congrArg some (congrArg Value.int (bI_f b20).symm), rfl⟩
  · refine aw_iconst (v := 1) K dX7_isBetween_23 (by decide) ?_
    refine aw_goto (tgt := 28) K dX7_isBetween_24 (by decide) ?_
    refine aw_zret K rfl dX7_isBetween_28 (by first | rfl | exact bI_nar _) ?_
    exact ⟨congrArg some (congrArg Value.int (bI_t b20).symm), rfl⟩

set_option maxHeartbeats 4000000 in
set_option maxRecDepth 100000 in
theorem lpX7_ringOf {l : Launch} {g : Geo} {sta : Nat → Nat} {k : KT} (K : AOK (wM l g sta) mX7_ringOf k) (h : HS) (s b : Int32) {N T Wn : Nat} (H : MW h N T Wn) :
    ∀ (n i : Nat), i + n = Wn → AW (wM l g sta) (DI (rgV h.1 s b Wn) h) 2 mX7_ringOf k 5 [some (.ref (g.2.1 0)), some (.int s), some (.int b), some (.int (rgV h.1 s b i)), some (.int (nI i)), none] [] h := by
  intro n
  have h3 := H.2.2.1.2
  induction n with
  | zero =>
    intro i k1
    obtain rfl : i = Wn := by omega
    refine aw_il4 K dX7_ringOf_5 ?_
    refine aw_al0 K dX7_ringOf_7 ?_
    refine aw_getI K gX7_235 dX7_ringOf_8 rfl rfl ?_
    rw [H.2.2.1.1]
    refine aw_icmp_ge (tgt := 97) K dX7_ringOf_11 (by decide) (fun b11 => ?_) (fun b11 => ?_)
    · refine aw_il3 K dX7_ringOf_97 ?_
      refine aw_iret K rfl dX7_ringOf_98 ?_
      exact ⟨rfl, rfl⟩
    · exact absurd (Int32.le_refl _) b11
  | succ n ih =>
    intro i k1
    have ky : rgP h.1 s b i → AW (wM l g sta) (DI (rgV h.1 s b Wn) h) 2 mX7_ringOf k 71 [some (.ref (g.2.1 0)), some (.int s), some (.int b), some (.int (rgV h.1 s b i)), some (.int (nI i)), none] [] h := by
      intro hp
      refine aw_iconst (v := 1) K dX7_ringOf_71 (by decide) ?_
      refine aw_goto (tgt := 76) K dX7_ringOf_72 (by decide) ?_
      refine aw_is5 K dX7_ringOf_76 (by decide) rfl ?_
      refine aw_il3 K dX7_ringOf_78 ?_
      refine aw_il5 K dX7_ringOf_79 ?_
      refine aw_if_eq (tgt := 88) K dX7_ringOf_81 (by decide) (fun b81 => ?_) (fun b81 => ?_)
      · exact absurd b81 (by decide)
      · refine aw_iconst (v := 1) K dX7_ringOf_84 (by decide) ?_
        refine aw_goto (tgt := 89) K dX7_ringOf_85 (by decide) ?_
        refine aw_iadd K dX7_ringOf_89 ?_
        refine aw_is3 K dX7_ringOf_90 (by decide) rfl ?_
        refine aw_ii4 (v := _ + 1) K dX7_ringOf_91 rfl (by decide) rfl ?_
        refine aw_goto (tgt := 5) K dX7_ringOf_94 (by decide) ?_
        rw [nI_1]
        refine aw_sub [some (.ref (g.2.1 0)), some (.int _), some (.int _), some (.int _), some (.int _), none] ⟨rfl, rfl, rfl, rfl, rfl, trivial⟩ ?_
        have z := ih (i + 1) (by omega)
        rw [show rgV h.1 s b (i + 1) = rgV h.1 s b i + 1 from congrArg (rgV h.1 s b i + ·) (bI_t hp)] at z
        exact z
    have kn : ¬ rgP h.1 s b i → AW (wM l g sta) (DI (rgV h.1 s b Wn) h) 2 mX7_ringOf k 75 [some (.ref (g.2.1 0)), some (.int s), some (.int b), some (.int (rgV h.1 s b i)), some (.int (nI i)), none] [] h := by
      intro hp
      refine aw_iconst (v := 0) K dX7_ringOf_75 (by decide) ?_
      refine aw_is5 K dX7_ringOf_76 (by decide) rfl ?_
      refine aw_il3 K dX7_ringOf_78 ?_
      refine aw_il5 K dX7_ringOf_79 ?_
      refine aw_if_eq (tgt := 88) K dX7_ringOf_81 (by decide) (fun b81 => ?_) (fun b81 => ?_)
      · refine aw_iconst (v := 0) K dX7_ringOf_88 (by decide) ?_
        refine aw_iadd K dX7_ringOf_89 ?_
        refine aw_is3 K dX7_ringOf_90 (by decide) rfl ?_
        refine aw_ii4 (v := _ + 1) K dX7_ringOf_91 rfl (by decide) rfl ?_
        refine aw_goto (tgt := 5) K dX7_ringOf_94 (by decide) ?_
        rw [nI_1]
        refine aw_sub [some (.ref (g.2.1 0)), some (.int _), some (.int _), some (.int _), some (.int _), none] ⟨rfl, rfl, rfl, rfl, rfl, trivial⟩ ?_
        have z := ih (i + 1) (by omega)
        rw [show rgV h.1 s b (i + 1) = rgV h.1 s b i + 0 from congrArg (rgV h.1 s b i + ·) (bI_f hp)] at z
        exact z
      · exact absurd rfl b81
    refine aw_il4 K dX7_ringOf_5 ?_
    refine aw_al0 K dX7_ringOf_7 ?_
    refine aw_getI K gX7_235 dX7_ringOf_8 rfl rfl ?_
    rw [H.2.2.1.1]
    refine aw_icmp_ge (tgt := 97) K dX7_ringOf_11 (by decide) (fun b11 => ?_) (fun b11 => ?_)
    · exact absurd b11 (nI_ge (by omega) (by omega))
    · refine aw_il2 K dX7_ringOf_14 ?_
      refine aw_if_eq (tgt := 71) K dX7_ringOf_15 (by decide) (fun b15 => ?_) (fun b15 => ?_)
      · exact ky (Or.inl b15)
      · refine aw_il2 K dX7_ringOf_18 ?_
        refine aw_iconst (v := 1) K dX7_ringOf_19 (by decide) ?_
        refine aw_icmp_ne (tgt := 33) K dX7_ringOf_20 (by decide) (fun b20 => ?_) (fun b20 => ?_)
        · refine aw_il2 K dX7_ringOf_33 ?_
          refine aw_iconst (v := 2) K dX7_ringOf_34 (by decide) ?_
          refine aw_icmp_ne (tgt := 47) K dX7_ringOf_35 (by decide) (fun b35 => ?_) (fun b35 => ?_)
          · refine aw_il2 K dX7_ringOf_47 ?_
            refine aw_iconst (v := 3) K dX7_ringOf_48 (by decide) ?_
            refine aw_icmp_ne (tgt := 75) K dX7_ringOf_49 (by decide) (fun b49 => ?_) (fun b49 => ?_)
            · exact kn (fun q => by
                rcases q with q | ⟨q, q2⟩ | ⟨q, q2⟩ | ⟨q, q2, q3⟩
                · exact b15 q
                · exact b20 q
                · exact b35 q
                · exact b49 q)
            · refine aw_al0 K dX7_ringOf_52 ?_
              refine aw_il4 K dX7_ringOf_53 ?_
              refine aw_callV_I K (tX7_isGood l g sta _ i (by omega)) rfl (by decide) fX7_isGood lX7_290 dX7_ringOf_55 rfl clsX7 rfl (Nat.le_of_ble_eq_true rfl) ?_
              refine aw_if_eq (tgt := 75) K dX7_ringOf_58 (by decide) (fun b58 => ?_) (fun b58 => ?_)
              · exact kn (fun q => by
                  rcases q with q | ⟨q, q2⟩ | ⟨q, q2⟩ | ⟨q, q2, q3⟩
                  · exact b15 q
                  · exact b20 q
                  · exact b35 q
                  · exact bI_0.mp b58 q2)
              · refine aw_al0 K dX7_ringOf_61 ?_
                refine aw_il4 K dX7_ringOf_62 ?_
                refine aw_il1 K dX7_ringOf_64 ?_
                refine aw_callV_I K (tX7_isBetween l g sta _ i (by omega) s) rfl (by decide) fX7_isBetween lX7_286 dX7_ringOf_65 rfl clsX7 rfl (Nat.le_of_ble_eq_true rfl) ?_
                refine aw_if_eq (tgt := 75) K dX7_ringOf_68 (by decide) (fun b68 => ?_) (fun b68 => ?_)
                · exact kn (fun q => by
                    rcases q with q | ⟨q, q2⟩ | ⟨q, q2⟩ | ⟨q, q2, q3⟩
                    · exact b15 q
                    · exact b20 q
                    · exact b35 q
                    · exact bI_0.mp b68 q3)
                · exact ky (Or.inr (Or.inr (Or.inr ⟨b49, bI_1.mp b58, bI_1.mp b68⟩)))
          · refine aw_al0 K dX7_ringOf_38 ?_
            refine aw_il4 K dX7_ringOf_39 ?_
            refine aw_callV_I K (tX7_isGood l g sta _ i (by omega)) rfl (by decide) fX7_isGood lX7_290 dX7_ringOf_41 rfl clsX7 rfl (Nat.le_of_ble_eq_true rfl) ?_
            refine aw_if_ne (tgt := 71) K dX7_ringOf_44 (by decide) (fun b44 => ?_) (fun b44 => ?_)
            · exact ky (Or.inr (Or.inr (Or.inl ⟨b35, bI_1.mp b44⟩)))
            · refine aw_il2 K dX7_ringOf_47 ?_
              refine aw_iconst (v := 3) K dX7_ringOf_48 (by decide) ?_
              refine aw_icmp_ne (tgt := 75) K dX7_ringOf_49 (by decide) (fun b49 => ?_) (fun b49 => ?_)
              · exact kn (fun q => by
                  rcases q with q | ⟨q, q2⟩ | ⟨q, q2⟩ | ⟨q, q2, q3⟩
                  · exact b15 q
                  · exact b20 q
                  · exact bI_0.mp b44 q2
                  · exact b49 q)
              · refine aw_al0 K dX7_ringOf_52 ?_
                refine aw_il4 K dX7_ringOf_53 ?_
                refine aw_callV_I K (tX7_isGood l g sta _ i (by omega)) rfl (by decide) fX7_isGood lX7_290 dX7_ringOf_55 rfl clsX7 rfl (Nat.le_of_ble_eq_true rfl) ?_
                refine aw_if_eq (tgt := 75) K dX7_ringOf_58 (by decide) (fun b58 => ?_) (fun b58 => ?_)
                · exact kn (fun q => by
                    rcases q with q | ⟨q, q2⟩ | ⟨q, q2⟩ | ⟨q, q2, q3⟩
                    · exact b15 q
                    · exact b20 q
                    · exact bI_0.mp b44 q2
                    · exact bI_0.mp b58 q2)
                · refine aw_al0 K dX7_ringOf_61 ?_
                  refine aw_il4 K dX7_ringOf_62 ?_
                  refine aw_il1 K dX7_ringOf_64 ?_
                  refine aw_callV_I K (tX7_isBetween l g sta _ i (by omega) s) rfl (by decide) fX7_isBetween lX7_286 dX7_ringOf_65 rfl clsX7 rfl (Nat.le_of_ble_eq_true rfl) ?_
                  refine aw_if_eq (tgt := 75) K dX7_ringOf_68 (by decide) (fun b68 => ?_) (fun b68 => ?_)
                  · exact kn (fun q => by
                      rcases q with q | ⟨q, q2⟩ | ⟨q, q2⟩ | ⟨q, q2, q3⟩
                      · exact b15 q
                      · exact b20 q
                      · exact bI_0.mp b44 q2
                      · exact bI_0.mp b68 q3)
                  · exact ky (Or.inr (Or.inr (Or.inr ⟨b49, bI_1.mp b58, bI_1.mp b68⟩)))
        · refine aw_al0 K dX7_ringOf_23 ?_
          refine aw_il4 K dX7_ringOf_24 ?_
          refine aw_il1 K dX7_ringOf_26 ?_
          refine aw_callV_I K (tX7_isBetween l g sta _ i (by omega) s) rfl (by decide) fX7_isBetween lX7_286 dX7_ringOf_27 rfl clsX7 rfl (Nat.le_of_ble_eq_true rfl) ?_
          refine aw_if_ne (tgt := 71) K dX7_ringOf_30 (by decide) (fun b30 => ?_) (fun b30 => ?_)
          · exact ky (Or.inr (Or.inl ⟨b20, bI_1.mp b30⟩))
          · refine aw_il2 K dX7_ringOf_33 ?_
            refine aw_iconst (v := 2) K dX7_ringOf_34 (by decide) ?_
            refine aw_icmp_ne (tgt := 47) K dX7_ringOf_35 (by decide) (fun b35 => ?_) (fun b35 => ?_)
            · refine aw_il2 K dX7_ringOf_47 ?_
              refine aw_iconst (v := 3) K dX7_ringOf_48 (by decide) ?_
              refine aw_icmp_ne (tgt := 75) K dX7_ringOf_49 (by decide) (fun b49 => ?_) (fun b49 => ?_)
              · exact kn (fun q => by
                  rcases q with q | ⟨q, q2⟩ | ⟨q, q2⟩ | ⟨q, q2, q3⟩
                  · exact b15 q
                  · exact bI_0.mp b30 q2
                  · exact b35 q
                  · exact b49 q)
              · refine aw_al0 K dX7_ringOf_52 ?_
                refine aw_il4 K dX7_ringOf_53 ?_
                refine aw_callV_I K (tX7_isGood l g sta _ i (by omega)) rfl (by decide) fX7_isGood lX7_290 dX7_ringOf_55 rfl clsX7 rfl (Nat.le_of_ble_eq_true rfl) ?_
                refine aw_if_eq (tgt := 75) K dX7_ringOf_58 (by decide) (fun b58 => ?_) (fun b58 => ?_)
                · exact kn (fun q => by
                    rcases q with q | ⟨q, q2⟩ | ⟨q, q2⟩ | ⟨q, q2, q3⟩
                    · exact b15 q
                    · exact bI_0.mp b30 q2
                    · exact b35 q
                    · exact bI_0.mp b58 q2)
                · refine aw_al0 K dX7_ringOf_61 ?_
                  refine aw_il4 K dX7_ringOf_62 ?_
                  refine aw_il1 K dX7_ringOf_64 ?_
                  refine aw_callV_I K (tX7_isBetween l g sta _ i (by omega) s) rfl (by decide) fX7_isBetween lX7_286 dX7_ringOf_65 rfl clsX7 rfl (Nat.le_of_ble_eq_true rfl) ?_
                  refine aw_if_eq (tgt := 75) K dX7_ringOf_68 (by decide) (fun b68 => ?_) (fun b68 => ?_)
                  · exact kn (fun q => by
                      rcases q with q | ⟨q, q2⟩ | ⟨q, q2⟩ | ⟨q, q2, q3⟩
                      · exact b15 q
                      · exact bI_0.mp b30 q2
                      · exact b35 q
                      · exact bI_0.mp b68 q3)
                  · exact ky (Or.inr (Or.inr (Or.inr ⟨b49, bI_1.mp b58, bI_1.mp b68⟩)))
            · refine aw_al0 K dX7_ringOf_38 ?_
              refine aw_il4 K dX7_ringOf_39 ?_
              refine aw_callV_I K (tX7_isGood l g sta _ i (by omega)) rfl (by decide) fX7_isGood lX7_290 dX7_ringOf_41 rfl clsX7 rfl (Nat.le_of_ble_eq_true rfl) ?_
              refine aw_if_ne (tgt := 71) K dX7_ringOf_44 (by decide) (fun b44 => ?_) (fun b44 => ?_)
              · exact ky (Or.inr (Or.inr (Or.inl ⟨b35, bI_1.mp b44⟩)))
              · refine aw_il2 K dX7_ringOf_47 ?_
                refine aw_iconst (v := 3) K dX7_ringOf_48 (by decide) ?_
                refine aw_icmp_ne (tgt := 75) K dX7_ringOf_49 (by decide) (fun b49 => ?_) (fun b49 => ?_)
                · exact kn (fun q => by
                    rcases q with q | ⟨q, q2⟩ | ⟨q, q2⟩ | ⟨q, q2, q3⟩
                    · exact b15 q
                    · exact bI_0.mp b30 q2
                    · exact bI_0.mp b44 q2
                    · exact b49 q)
                · refine aw_al0 K dX7_ringOf_52 ?_
                  refine aw_il4 K dX7_ringOf_53 ?_
                  refine aw_callV_I K (tX7_isGood l g sta _ i (by omega)) rfl (by decide) fX7_isGood lX7_290 dX7_ringOf_55 rfl clsX7 rfl (Nat.le_of_ble_eq_true rfl) ?_
                  refine aw_if_eq (tgt := 75) K dX7_ringOf_58 (by decide) (fun b58 => ?_) (fun b58 => ?_)
                  · exact kn (fun q => by
                      rcases q with q | ⟨q, q2⟩ | ⟨q, q2⟩ | ⟨q, q2, q3⟩
                      · exact b15 q
                      · exact bI_0.mp b30 q2
                      · exact bI_0.mp b44 q2
                      · exact bI_0.mp b58 q2)
                  · refine aw_al0 K dX7_ringOf_61 ?_
                    refine aw_il4 K dX7_ringOf_62 ?_
                    refine aw_il1 K dX7_ringOf_64 ?_
                    refine aw_callV_I K (tX7_isBetween l g sta _ i (by omega) s) rfl (by decide) fX7_isBetween lX7_286 dX7_ringOf_65 rfl clsX7 rfl (Nat.le_of_ble_eq_true rfl) ?_
                    refine aw_if_eq (tgt := 75) K dX7_ringOf_68 (by decide) (fun b68 => ?_) (fun b68 => ?_)
                    · exact kn (fun q => by
                        rcases q with q | ⟨q, q2⟩ | ⟨q, q2⟩ | ⟨q, q2, q3⟩
                        · exact b15 q
                        · exact bI_0.mp b30 q2
                        · exact bI_0.mp b44 q2
                        · exact bI_0.mp b68 q3)
                    · exact ky (Or.inr (Or.inr (Or.inr ⟨b49, bI_1.mp b58, bI_1.mp b68⟩)))
set_option maxHeartbeats 4000000 in
set_option maxRecDepth 100000 in
theorem tX7_ringOf (l : Launch) (g : Geo) (sta : Nat → Nat) (h : HS) (s b : Int32) {N T Wn : Nat} (H : MW h N T Wn) : CT (wM l g sta) 2 mX7_ringOf [.ref (g.2.1 0), .int s, .int b] h (DI (rgV h.1 s b Wn) h) := by
  refine CT.at [some (.ref (g.2.1 0)), some (.int s), some (.int b), none, none, none] 3 rfl (by decide) (Nat.le_of_ble_eq_true rfl) (fun k K => ?_)
  refine aw_iconst (v := 0) K dX7_ringOf_0 (by decide) ?_
  refine aw_is3 K dX7_ringOf_1 (by decide) rfl ?_
  refine aw_iconst (v := 0) K dX7_ringOf_2 (by decide) ?_
  refine aw_is4 K dX7_ringOf_3 (by decide) rfl ?_
  exact lpX7_ringOf K h s b H Wn 0 (by omega)

set_option maxHeartbeats 4000000 in
set_option maxRecDepth 100000 in
theorem tX7_ring (l : Launch) (g : Geo) (sta : Nat → Nat) (h : HS) (s b : Int32) {N T Wn : Nat} (H : MW h N T Wn) : CT (wM l g sta) 7 mX7_ring [.ref (g.2.1 0), .int s, .int b] h (DI (if (0 ≤ s ∧ s ≤ 1 <<< (h.1 0 0 &&& 31) - 1) ∧ (0 ≤ b ∧ b ≤ 3) then rgV h.1 s b Wn else -1) h) := by
  refine CT.at [some (.ref (g.2.1 0)), some (.int s), some (.int b)] 0 rfl (by decide) (Nat.le_of_ble_eq_true rfl) (fun k K => ?_)
  refine aw_al0 K dX7_ring_0 ?_
  refine aw_il1 K dX7_ring_1 ?_
  refine aw_callV_I K (tX7_areNames l g sta _ _) rfl (by decide) fX7_areNames lX7_223 dX7_ring_2 rfl clsX7 rfl (Nat.le_of_ble_eq_true rfl) ?_
  refine aw_if_eq (tgt := 29) K dX7_ring_5 (by decide) (fun b5 => ?_) (fun b5 => ?_)
  · refine aw_iconst (v := (-1)) K dX7_ring_29 (by decide) ?_
    refine aw_iret K rfl dX7_ring_30 ?_
    exact ⟨congrArg some (congrArg Value.int (if_neg (fun q => bI_0.mp b5 q.1)).symm), rfl⟩
  · refine aw_il2 K dX7_ring_8 ?_
    refine aw_i2l K dX7_ring_9 ?_
    refine aw_lconst (v := 0) K dX7_ring_10 (by decide) ?_
    refine aw_ldc2 K qX7_119 dX7_ring_11 ?_
    refine aw_callS_I K (in32 l g sta _ _ (0) (3) (by decide) (by decide)) rfl (by decide) fX7_in lX7_102 dX7_ring_14 rfl (Nat.le_of_ble_eq_true rfl) ?_
    refine aw_if_eq (tgt := 29) K dX7_ring_17 (by decide) (fun b17 => ?_) (fun b17 => ?_)
    · refine aw_iconst (v := (-1)) K dX7_ring_29 (by decide) ?_
      refine aw_iret K rfl dX7_ring_30 ?_
      exact ⟨congrArg some (congrArg Value.int (if_neg (fun q => bI_0.mp b17 q.2)).symm), rfl⟩
    · refine aw_al0 K dX7_ring_20 ?_
      refine aw_il1 K dX7_ring_21 ?_
      refine aw_il2 K dX7_ring_22 ?_
      refine aw_callV_I K (tX7_ringOf l g sta _ _ _ H) rfl (by decide) fX7_ringOf lX7_293 dX7_ring_23 rfl clsX7 rfl (Nat.le_of_ble_eq_true rfl) ?_
      refine aw_goto (tgt := 30) K dX7_ring_26 (by decide) ?_
      refine aw_iret K rfl dX7_ring_30 ?_
      exact ⟨congrArg some (congrArg Value.int (if_pos ⟨bI_1.mp b5, bI_1.mp b17⟩).symm), rfl⟩

def wlV (a b : Int32) : Nat → Int64
  | 0 => 1
  | i + 1 => wlV a b i * (a - b + nI (i + 1)).toInt64 / (nI (i + 1)).toInt64
def wayV (a b : Int32) : Int64 := if b < 0 ∨ a < b then 0 else wlV a b b.toNatClampNeg
theorem way_ne {n k : Nat} (hn : n ≤ 24) (hk : k ≤ n) : ¬ wayV (nI n) (nI k) = 0 := by
  have q : ∀ a : Fin 25, ∀ b : Fin 25, b.1 ≤ a.1 → ¬ wayV (nI a.1) (nI b.1) = 0 := by decide +kernel
  exact q ⟨n, by omega⟩ ⟨k, by omega⟩ hk
theorem nI_l0 {i : Nat} (h0 : 0 < i) (h : i < 2 ^ 31) : ¬ (nI i).toInt64 = 0 := by
  rw [nI_l h]
  intro q
  have := (lN_eq (a := i) (b := 0) h (by decide)).mp q
  omega
set_option maxHeartbeats 4000000 in
set_option maxRecDepth 100000 in
theorem lpX7_ways {l : Launch} {g : Geo} {sta : Nat → Nat} {k : KT} (K : AOK (wM l g sta) mX7_ways k) (h : HS) (a : Int32) (m : Nat) (hm : m < 2 ^ 31 - 1) :
    ∀ (n i : Nat), i + n = m → AW (wM l g sta) (DL (wlV a (nI m) m) h) 1 mX7_ways k 16 [some (.int a), some (.int (nI m)), some (.long (wlV a (nI m) i)), none, some (.int (nI (i + 1)))] [] h := by
  intro n
  induction n with
  | zero =>
    intro i k1
    obtain rfl : i = m := by omega
    refine aw_il4 K dX7_ways_16 ?_
    refine aw_il1 K dX7_ways_18 ?_
    refine aw_icmp_gt (tgt := 42) K dX7_ways_19 (by decide) (fun b19 => ?_) (fun b19 => ?_)
    · refine aw_ll2 K dX7_ways_42 ?_
      refine aw_lret K rfl dX7_ways_43 ?_
      exact ⟨rfl, rfl⟩
    · exact absurd (nI_lt (show i < i + 1 by omega) (by omega)) b19
  | succ n ih =>
    intro i k1
    refine aw_il4 K dX7_ways_16 ?_
    refine aw_il1 K dX7_ways_18 ?_
    refine aw_icmp_gt (tgt := 42) K dX7_ways_19 (by decide) (fun b19 => ?_) (fun b19 => ?_)
    · exact absurd b19 (nI_nlt (by omega) (by omega))
    · refine aw_ll2 K dX7_ways_22 ?_
      refine aw_il0 K dX7_ways_23 ?_
      refine aw_il1 K dX7_ways_24 ?_
      refine aw_isub K dX7_ways_25 ?_
      refine aw_il4 K dX7_ways_26 ?_
      refine aw_iadd K dX7_ways_28 ?_
      refine aw_i2l K dX7_ways_29 ?_
      refine aw_lmul K dX7_ways_30 ?_
      refine aw_il4 K dX7_ways_31 ?_
      refine aw_i2l K dX7_ways_33 ?_
      refine aw_ldiv K dX7_ways_34 (nI_l0 (by omega) (by omega)) ?_
      refine aw_ls2 K dX7_ways_35 (by decide) rfl ?_
      refine aw_ii4 (v := _ + 1) K dX7_ways_36 rfl (by decide) rfl ?_
      refine aw_goto (tgt := 16) K dX7_ways_39 (by decide) ?_
      rw [nI_1]
      exact ih (i + 1) (by omega)
set_option maxHeartbeats 4000000 in
set_option maxRecDepth 100000 in
theorem tX7_ways (l : Launch) (g : Geo) (sta : Nat → Nat) (h : HS) (a b : Int32) (hb : b ≤ 24) : CT (wM l g sta) 1 mX7_ways [.int a, .int b] h (DL (wayV a b) h) := by
  refine CT.at [some (.int a), some (.int b), none, none, none] 3 rfl (by decide) (Nat.le_of_ble_eq_true rfl) (fun k K => ?_)
  refine aw_il1 K dX7_ways_0 ?_
  refine aw_if_lt (tgt := 9) K dX7_ways_1 (by decide) (fun b1 => ?_) (fun b1 => ?_)
  · refine aw_lconst (v := 0) K dX7_ways_9 (by decide) ?_
    refine aw_lret K rfl dX7_ways_10 ?_
    refine ⟨?_, rfl⟩
    rw [wayV, if_pos (Or.inl b1)]
  · refine aw_il1 K dX7_ways_4 ?_
    refine aw_il0 K dX7_ways_5 ?_
    refine aw_icmp_le (tgt := 11) K dX7_ways_6 (by decide) (fun b6 => ?_) (fun b6 => ?_)
    · refine aw_lconst (v := 1) K dX7_ways_11 (by decide) ?_
      refine aw_ls2 K dX7_ways_12 (by decide) rfl ?_
      refine aw_iconst (v := 1) K dX7_ways_13 (by decide) ?_
      refine aw_is4 K dX7_ways_14 (by decide) rfl ?_
      obtain ⟨m, hm, rfl⟩ := nI_of b1
      have hm2 := (nI_leI (b := 24) hm (by decide)).mp hb
      rw [wayV, if_neg (fun q => q.elim b1 (Int32.not_lt.mpr b6)), nI_clamp hm]
      exact lpX7_ways K h a m (by omega) m 0 (by omega)
    · refine aw_lconst (v := 0) K dX7_ways_9 (by decide) ?_
      refine aw_lret K rfl dX7_ways_10 ?_
      refine ⟨?_, rfl⟩
      rw [wayV, if_pos (Or.inr (Int32.not_le.mp b6))]

theorem sub24 {g i : Nat} (hg : g ≤ 24) (hi : i ≤ 24) : nI g - nI i ≤ 24 := by
  have q : ∀ a : Fin 25, ∀ b : Fin 25, nI a.1 - nI b.1 ≤ 24 := by decide +kernel
  exact q ⟨g, by omega⟩ ⟨i, by omega⟩
set_option maxHeartbeats 4000000 in
set_option maxRecDepth 100000 in
theorem lpX7_findOdds {l : Launch} {g : Geo} {sta : Nat → Nat} {k : KT} (K : AOK (wM l g sta) mX7_findOdds k) (h0 : HS) (s : Int32) (n0 m gg hh : Nat) (hm : m ≤ 24) (hg : gg ≤ 24) (hh2 : hh ≤ 24) (hd : ∀ h : HS, h.2 0 39 = h0.2 0 39 → ¬ h.2 0 39 = 0) :
    ∀ (n i : Nat) (h : HS), m + 1 - i < n → i ≤ 25 → MS h0 h → h.2 0 39 = h0.2 0 39 → AW (wM l g sta) (MSV h0) 3 mX7_findOdds k 49 [some (.ref (g.2.1 0)), some (.int s), some (.int (nI n0)), some (.int (nI m)), some (.int (nI gg)), some (.int (nI hh)), some (.int (nI i)), none] [] h := by
  intro n
  induction n with
  | zero => intro i h k1; omega
  | succ n ih =>
    intro i h k1 k2 hx hl
    refine aw_il6 K dX7_findOdds_49 ?_
    refine aw_il3 K dX7_findOdds_51 ?_
    refine aw_icmp_gt (tgt := 88) K dX7_findOdds_52 (by decide) (fun b52 => ?_) (fun b52 => ?_)
    · refine aw_al0 K dX7_findOdds_88 ?_
      refine aw_getL K gX7_296 dX7_findOdds_89 rfl rfl ?_
      refine aw_al0 K dX7_findOdds_92 ?_
      refine aw_getL K gX7_304 dX7_findOdds_93 rfl rfl ?_
      refine aw_callS K (tX7_common l g sta _ _ _) rfl (by decide) fX7_common lX7_271 dX7_findOdds_96 rfl (Nat.le_of_ble_eq_true rfl) (fun o h2 hq => ?_)
      obtain ⟨⟨r, rfl, hr, -⟩, rfl⟩ := hq
      have hr2 := hr (hd _ hl)
      refine (show AW _ _ _ _ _ _ _ (.long r :: _) _ from ?_)
      refine aw_ls6 K dX7_findOdds_99 (by decide) rfl ?_
      refine aw_al0 K dX7_findOdds_101 ?_
      refine aw_dup K dX7_findOdds_102 rfl ?_
      refine aw_getL K gX7_296 dX7_findOdds_103 rfl rfl ?_
      refine aw_ll6 K dX7_findOdds_106 ?_
      refine aw_ldiv K dX7_findOdds_108 hr2 ?_
      refine aw_putL K gX7_296 fpX7_38 dX7_findOdds_109 rfl rfl ?_
      refine aw_al0 K dX7_findOdds_112 ?_
      refine aw_dup K dX7_findOdds_113 rfl ?_
      refine aw_getL K gX7_304 dX7_findOdds_114 rfl rfl ?_
      refine aw_ll6 K dX7_findOdds_117 ?_
      refine aw_ldiv K dX7_findOdds_119 hr2 ?_
      refine aw_putL K gX7_304 fpX7_39 dX7_findOdds_120 rfl rfl ?_
      refine aw_vret K rfl dX7_findOdds_123 ?_
      exact ⟨rfl, hx.lo.lo⟩
    · have hle : i ≤ m := by
        rcases Nat.lt_or_ge m i with q | q
        · exact absurd (nI_lt q (by omega)) b52
        · exact q
      refine aw_al0 K dX7_findOdds_55 ?_
      refine aw_dup K dX7_findOdds_56 rfl ?_
      refine aw_getL K gX7_296 dX7_findOdds_57 rfl rfl ?_
      refine aw_il3 K dX7_findOdds_60 ?_
      refine aw_il6 K dX7_findOdds_61 ?_
      refine aw_callS_L K (tX7_ways l g sta _ _ _ (nI_le (b := 24) (by omega) (by decide))) rfl (by decide) fX7_ways lX7_300 dX7_findOdds_63 rfl (Nat.le_of_ble_eq_true rfl) ?_
      refine aw_il2 K dX7_findOdds_66 ?_
      refine aw_il3 K dX7_findOdds_67 ?_
      refine aw_isub K dX7_findOdds_68 ?_
      refine aw_il4 K dX7_findOdds_69 ?_
      refine aw_il6 K dX7_findOdds_71 ?_
      refine aw_isub K dX7_findOdds_73 ?_
      refine aw_callS_L K (tX7_ways l g sta _ _ _ (sub24 hg (by omega))) rfl (by decide) fX7_ways lX7_300 dX7_findOdds_74 rfl (Nat.le_of_ble_eq_true rfl) ?_
      refine aw_lmul K dX7_findOdds_77 ?_
      refine aw_ladd K dX7_findOdds_78 ?_
      refine aw_putL K gX7_296 fpX7_38 dX7_findOdds_79 rfl rfl ?_
      refine aw_ii6 (v := _ + 1) K dX7_findOdds_82 rfl (by decide) rfl ?_
      refine aw_goto (tgt := 49) K dX7_findOdds_85 (by decide) ?_
      rw [nI_1]
      exact ih (i + 1) _ (by omega) (by omega) hx.lo hl
set_option maxHeartbeats 4000000 in
set_option maxRecDepth 100000 in
theorem tX7_findOdds (l : Launch) (g : Geo) (sta : Nat → Nat) (h : HS) (s : Int32) {N T Wn : Nat} (H : MW h N T Wn) : CT (wM l g sta) 3 mX7_findOdds [.ref (g.2.1 0), .int s] h (MSV h) := by
  refine CT.at [some (.ref (g.2.1 0)), some (.int s), none, none, none, none, none, none] 6 rfl (by decide) (Nat.le_of_ble_eq_true rfl) (fun k K => ?_)
  refine aw_al0 K dX7_findOdds_0 ?_
  refine aw_il1 K dX7_findOdds_1 ?_
  refine aw_iconst (v := 0) K dX7_findOdds_2 (by decide) ?_
  refine aw_callV_I K (tX7_ringOf l g sta _ _ _ H) rfl (by decide) fX7_ringOf lX7_293 dX7_findOdds_3 rfl clsX7 rfl (Nat.le_of_ble_eq_true rfl) ?_
  refine aw_is2 K dX7_findOdds_6 (by decide) rfl ?_
  refine aw_al0 K dX7_findOdds_7 ?_
  refine aw_il1 K dX7_findOdds_8 ?_
  refine aw_iconst (v := 1) K dX7_findOdds_9 (by decide) ?_
  refine aw_callV_I K (tX7_ringOf l g sta _ _ _ H) rfl (by decide) fX7_ringOf lX7_293 dX7_findOdds_10 rfl clsX7 rfl (Nat.le_of_ble_eq_true rfl) ?_
  refine aw_is3 K dX7_findOdds_13 (by decide) rfl ?_
  refine aw_al0 K dX7_findOdds_14 ?_
  refine aw_il1 K dX7_findOdds_15 ?_
  refine aw_iconst (v := 2) K dX7_findOdds_16 (by decide) ?_
  refine aw_callV_I K (tX7_ringOf l g sta _ _ _ H) rfl (by decide) fX7_ringOf lX7_293 dX7_findOdds_17 rfl clsX7 rfl (Nat.le_of_ble_eq_true rfl) ?_
  refine aw_is4 K dX7_findOdds_20 (by decide) rfl ?_
  refine aw_al0 K dX7_findOdds_22 ?_
  refine aw_il1 K dX7_findOdds_23 ?_
  refine aw_iconst (v := 3) K dX7_findOdds_24 (by decide) ?_
  refine aw_callV_I K (tX7_ringOf l g sta _ _ _ H) rfl (by decide) fX7_ringOf lX7_293 dX7_findOdds_25 rfl clsX7 rfl (Nat.le_of_ble_eq_true rfl) ?_
  refine aw_is5 K dX7_findOdds_28 (by decide) rfl ?_
  refine aw_al0 K dX7_findOdds_30 ?_
  refine aw_lconst (v := 0) K dX7_findOdds_31 (by decide) ?_
  refine aw_putL K gX7_296 fpX7_38 dX7_findOdds_32 rfl rfl ?_
  refine aw_al0 K dX7_findOdds_35 ?_
  refine aw_il2 K dX7_findOdds_36 ?_
  refine aw_il4 K dX7_findOdds_37 ?_
  have h3 := H.2.2.1.2
  obtain ⟨m, hm, em⟩ := rgV_in h.1 s 1 Wn
  obtain ⟨gg, hg, eg⟩ := rgV_in h.1 s 2 Wn
  obtain ⟨hh, hh2, eh⟩ := rgV_in h.1 s 3 Wn
  rw [rgV_0, em, eg, eh]
  refine aw_callS_L K (tX7_ways l g sta _ _ _ (nI_le (b := 24) (by omega) (by decide))) rfl (by decide) fX7_ways lX7_300 dX7_findOdds_39 rfl (Nat.le_of_ble_eq_true rfl) ?_
  refine aw_putL K gX7_304 fpX7_39 dX7_findOdds_42 rfl rfl ?_
  refine aw_il5 K dX7_findOdds_45 ?_
  refine aw_is6 K dX7_findOdds_47 (by decide) rfl ?_
  have hd : ∀ x : HS, x.2 0 39 = (setL (setL h 0 38 0) 0 39 (wayV (nI Wn) (nI gg))).2 0 39 → ¬ x.2 0 39 = 0 := by
    intro x hx q
    rw [hx, rdL, if_pos ⟨rfl, rfl⟩] at q
    exact way_ne h3 hg q
  exact lpX7_findOdds K (setL (setL h 0 38 0) 0 39 (wayV (nI Wn) (nI gg))) s Wn m gg hh (by omega) (by omega) (by omega) hd (m + 2) hh _ (by omega) (by omega) MS.rf rfl

set_option maxHeartbeats 4000000 in
set_option maxRecDepth 100000 in
theorem tX7_odds (l : Launch) (g : Geo) (sta : Nat → Nat) (h : HS) (a b : Int32) {N T Wn : Nat} (H : MW h N T Wn) : CT (wM l g sta) 7 mX7_odds [.ref (g.2.1 0), .int a, .int b] h (MSL h) := by
  refine CT.at [some (.ref (g.2.1 0)), some (.int a), some (.int b)] 0 rfl (by decide) (Nat.le_of_ble_eq_true rfl) (fun k K => ?_)
  refine aw_al0 K dX7_odds_0 ?_
  refine aw_il1 K dX7_odds_1 ?_
  refine aw_callV_I K (tX7_areNames l g sta _ _) rfl (by decide) fX7_areNames lX7_223 dX7_odds_2 rfl clsX7 rfl (Nat.le_of_ble_eq_true rfl) ?_
  refine aw_if_eq (tgt := 18) K dX7_odds_5 (by decide) (fun b5 => ?_) (fun b5 => ?_)
  · refine aw_ldc2 K qX7_307 dX7_odds_18 ?_
    refine aw_lret K rfl dX7_odds_21 ?_
    exact ⟨⟨_, rfl⟩, MS.rf⟩
  · refine aw_il2 K dX7_odds_8 ?_
    refine aw_i2l K dX7_odds_9 ?_
    refine aw_lconst (v := 0) K dX7_odds_10 (by decide) ?_
    refine aw_lconst (v := 1) K dX7_odds_11 (by decide) ?_
    refine aw_callS_I K (in32 l g sta _ _ (0) (1) (by decide) (by decide)) rfl (by decide) fX7_in lX7_102 dX7_odds_12 rfl (Nat.le_of_ble_eq_true rfl) ?_
    refine aw_if_ne (tgt := 22) K dX7_odds_15 (by decide) (fun b15 => ?_) (fun b15 => ?_)
    · refine aw_al0 K dX7_odds_22 ?_
      refine aw_il1 K dX7_odds_23 ?_
      refine aw_callV K (tX7_findOdds l g sta _ _ H) rfl (by decide) fX7_findOdds lX7_309 dX7_odds_24 rfl clsX7 rfl (Nat.le_of_ble_eq_true rfl) (fun o h2 hq => ?_)
      obtain ⟨rfl, hx⟩ := hq
      refine aw_il2 K dX7_odds_27 ?_
      refine aw_if_ne (tgt := 38) K dX7_odds_28 (by decide) (fun b28 => ?_) (fun b28 => ?_)
      · refine aw_al0 K dX7_odds_38 ?_
        refine aw_getL K gX7_304 dX7_odds_39 rfl rfl ?_
        refine aw_lret K rfl dX7_odds_42 ?_
        exact ⟨⟨_, rfl⟩, hx⟩
      · refine aw_al0 K dX7_odds_31 ?_
        refine aw_getL K gX7_296 dX7_odds_32 rfl rfl ?_
        refine aw_goto (tgt := 42) K dX7_odds_35 (by decide) ?_
        refine aw_lret K rfl dX7_odds_42 ?_
        exact ⟨⟨_, rfl⟩, hx⟩
    · refine aw_ldc2 K qX7_307 dX7_odds_18 ?_
      refine aw_lret K rfl dX7_odds_21 ?_
      exact ⟨⟨_, rfl⟩, MS.rf⟩

set_option maxHeartbeats 4000000 in
set_option maxRecDepth 100000 in
theorem lpX7_oddest {l : Launch} {g : Geo} {sta : Nat → Nat} {k : KT} (K : AOK (wM l g sta) mX7_oddest k) (h0 : HS) (a : Int32) {N T Wn : Nat} (H0 : MW h0 N T Wn) :
    ∀ (n i : Nat) (u v : Int64) (be : Int32) (h : HS), i + n = 2 ^ N → MS h0 h → AW (wM l g sta) (MSL h0) 7 mX7_oddest k 28 [some (.ref (g.2.1 0)), some (.int a), some (.long u), none, some (.long v), none, some (.int be), some (.int (nI i))] [] h := by
  intro n
  have hN := p2N H0.1.2
  induction n with
  | zero =>
    intro i u v be h k1 hx
    have H := H0.q hx
    obtain rfl : i = 2 ^ N := by omega
    refine aw_il7 K dX7_oddest_28 ?_
    refine aw_iconst (v := 1) K dX7_oddest_30 (by decide) ?_
    refine aw_al0 K dX7_oddest_31 ?_
    refine aw_getI K gX7_98 dX7_oddest_32 rfl rfl ?_
    refine aw_ishl K dX7_oddest_35 ?_
    rw [shN H.1.1 H.1.2]
    refine aw_icmp_ge (tgt := 101) K dX7_oddest_36 (by decide) (fun b36 => ?_) (fun b36 => ?_)
    · refine aw_il6 K dX7_oddest_101 ?_
      refine aw_bipush (v := (-4)) K dX7_oddest_103 (by decide) ?_
      refine aw_icmp_ne (tgt := 114) K dX7_oddest_105 (by decide) (fun b105 => ?_) (fun b105 => ?_)
      · refine aw_il1 K dX7_oddest_114 ?_
        refine aw_if_ne (tgt := 124) K dX7_oddest_115 (by decide) (fun b115 => ?_) (fun b115 => ?_)
        · refine aw_il1 K dX7_oddest_124 ?_
          refine aw_iconst (v := 1) K dX7_oddest_125 (by decide) ?_
          refine aw_icmp_ne (tgt := 133) K dX7_oddest_126 (by decide) (fun b126 => ?_) (fun b126 => ?_)
          · refine aw_ll4 K dX7_oddest_133 ?_
            refine aw_lret K rfl dX7_oddest_135 ?_
            exact ⟨⟨_, rfl⟩, hx⟩
          · refine aw_ll2 K dX7_oddest_129 ?_
            refine aw_goto (tgt := 135) K dX7_oddest_130 (by decide) ?_
            refine aw_lret K rfl dX7_oddest_135 ?_
            exact ⟨⟨_, rfl⟩, hx⟩
        · refine aw_il6 K dX7_oddest_118 ?_
          refine aw_i2l K dX7_oddest_120 ?_
          refine aw_goto (tgt := 135) K dX7_oddest_121 (by decide) ?_
          refine aw_lret K rfl dX7_oddest_135 ?_
          exact ⟨⟨_, rfl⟩, hx⟩
      · refine aw_ldc2 K qX7_312 dX7_oddest_108 ?_
        refine aw_goto (tgt := 135) K dX7_oddest_111 (by decide) ?_
        refine aw_lret K rfl dX7_oddest_135 ?_
        exact ⟨⟨_, rfl⟩, hx⟩
    · exact absurd (Int32.le_refl _) b36
  | succ n ih =>
    intro i u v be h k1 hx
    have H := H0.q hx
    refine aw_il7 K dX7_oddest_28 ?_
    refine aw_iconst (v := 1) K dX7_oddest_30 (by decide) ?_
    refine aw_al0 K dX7_oddest_31 ?_
    refine aw_getI K gX7_98 dX7_oddest_32 rfl rfl ?_
    refine aw_ishl K dX7_oddest_35 ?_
    rw [shN H.1.1 H.1.2]
    refine aw_icmp_ge (tgt := 101) K dX7_oddest_36 (by decide) (fun b36 => ?_) (fun b36 => ?_)
    · exact absurd b36 (nI_ge (by omega) (by omega))
    · refine aw_il7 K dX7_oddest_39 ?_
      refine aw_callS_I K (tX7_bits l g sta _ _) rfl (by decide) fX7_bits lX7_144 dX7_oddest_41 rfl (Nat.le_of_ble_eq_true rfl) ?_
      refine aw_iconst (v := 3) K dX7_oddest_44 (by decide) ?_
      refine aw_icmp_eq (tgt := 57) K dX7_oddest_45 (by decide) (fun b45 => ?_) (fun b45 => ?_)
      · refine aw_al0 K dX7_oddest_57 ?_
        refine aw_il7 K dX7_oddest_58 ?_
        refine aw_callV K (tX7_findOdds l g sta _ _ H) rfl (by decide) fX7_findOdds lX7_309 dX7_oddest_60 rfl clsX7 rfl (Nat.le_of_ble_eq_true rfl) (fun o h2 hq => ?_)
        obtain ⟨rfl, hx1⟩ := hq
        have hx2 := hx.tr hx1
        refine aw_al0 K dX7_oddest_63 ?_
        refine aw_getL K gX7_296 dX7_oddest_64 rfl rfl ?_
        refine aw_ll4 K dX7_oddest_67 ?_
        refine aw_lmul K dX7_oddest_69 ?_
        refine aw_ll2 K dX7_oddest_70 ?_
        refine aw_al0 K dX7_oddest_71 ?_
        refine aw_getL K gX7_304 dX7_oddest_72 rfl rfl ?_
        refine aw_lmul K dX7_oddest_75 ?_
        refine aw_lcmp K dX7_oddest_76 ?_
        refine aw_if_ge (tgt := 95) K dX7_oddest_77 (by decide) (fun b77 => ?_) (fun b77 => ?_)
        · refine aw_ii7 (v := _ + 1) K dX7_oddest_95 rfl (by decide) rfl ?_
          refine aw_goto (tgt := 28) K dX7_oddest_98 (by decide) ?_
          rw [nI_1]
          exact ih (i + 1) _ _ _ _ (by omega) hx2
        · refine aw_al0 K dX7_oddest_80 ?_
          refine aw_getL K gX7_296 dX7_oddest_81 rfl rfl ?_
          refine aw_ls2 K dX7_oddest_84 (by decide) rfl ?_
          refine aw_al0 K dX7_oddest_85 ?_
          refine aw_getL K gX7_304 dX7_oddest_86 rfl rfl ?_
          refine aw_ls4 K dX7_oddest_89 (by decide) rfl ?_
          refine aw_il7 K dX7_oddest_91 ?_
          refine aw_is6 K dX7_oddest_93 (by decide) rfl ?_
          refine aw_ii7 (v := _ + 1) K dX7_oddest_95 rfl (by decide) rfl ?_
          refine aw_goto (tgt := 28) K dX7_oddest_98 (by decide) ?_
          rw [nI_1]
          exact ih (i + 1) _ _ _ _ (by omega) hx2
      · refine aw_il7 K dX7_oddest_48 ?_
        refine aw_callS_I K (tX7_bits l g sta _ _) rfl (by decide) fX7_bits lX7_144 dX7_oddest_50 rfl (Nat.le_of_ble_eq_true rfl) ?_
        refine aw_iconst (v := 4) K dX7_oddest_53 (by decide) ?_
        refine aw_icmp_ne (tgt := 95) K dX7_oddest_54 (by decide) (fun b54 => ?_) (fun b54 => ?_)
        · refine aw_ii7 (v := _ + 1) K dX7_oddest_95 rfl (by decide) rfl ?_
          refine aw_goto (tgt := 28) K dX7_oddest_98 (by decide) ?_
          rw [nI_1]
          exact ih (i + 1) _ _ _ _ (by omega) hx
        · refine aw_al0 K dX7_oddest_57 ?_
          refine aw_il7 K dX7_oddest_58 ?_
          refine aw_callV K (tX7_findOdds l g sta _ _ H) rfl (by decide) fX7_findOdds lX7_309 dX7_oddest_60 rfl clsX7 rfl (Nat.le_of_ble_eq_true rfl) (fun o h2 hq => ?_)
          obtain ⟨rfl, hx1⟩ := hq
          have hx2 := hx.tr hx1
          refine aw_al0 K dX7_oddest_63 ?_
          refine aw_getL K gX7_296 dX7_oddest_64 rfl rfl ?_
          refine aw_ll4 K dX7_oddest_67 ?_
          refine aw_lmul K dX7_oddest_69 ?_
          refine aw_ll2 K dX7_oddest_70 ?_
          refine aw_al0 K dX7_oddest_71 ?_
          refine aw_getL K gX7_304 dX7_oddest_72 rfl rfl ?_
          refine aw_lmul K dX7_oddest_75 ?_
          refine aw_lcmp K dX7_oddest_76 ?_
          refine aw_if_ge (tgt := 95) K dX7_oddest_77 (by decide) (fun b77 => ?_) (fun b77 => ?_)
          · refine aw_ii7 (v := _ + 1) K dX7_oddest_95 rfl (by decide) rfl ?_
            refine aw_goto (tgt := 28) K dX7_oddest_98 (by decide) ?_
            rw [nI_1]
            exact ih (i + 1) _ _ _ _ (by omega) hx2
          · refine aw_al0 K dX7_oddest_80 ?_
            refine aw_getL K gX7_296 dX7_oddest_81 rfl rfl ?_
            refine aw_ls2 K dX7_oddest_84 (by decide) rfl ?_
            refine aw_al0 K dX7_oddest_85 ?_
            refine aw_getL K gX7_304 dX7_oddest_86 rfl rfl ?_
            refine aw_ls4 K dX7_oddest_89 (by decide) rfl ?_
            refine aw_il7 K dX7_oddest_91 ?_
            refine aw_is6 K dX7_oddest_93 (by decide) rfl ?_
            refine aw_ii7 (v := _ + 1) K dX7_oddest_95 rfl (by decide) rfl ?_
            refine aw_goto (tgt := 28) K dX7_oddest_98 (by decide) ?_
            rw [nI_1]
            exact ih (i + 1) _ _ _ _ (by omega) hx2
set_option maxHeartbeats 4000000 in
set_option maxRecDepth 100000 in
theorem tX7_oddest (l : Launch) (g : Geo) (sta : Nat → Nat) (h : HS) (a : Int32) {N T Wn : Nat} (H : MW h N T Wn) : CT (wM l g sta) 7 mX7_oddest [.ref (g.2.1 0), .int a] h (MSL h) := by
  refine CT.at [some (.ref (g.2.1 0)), some (.int a), none, none, none, none, none, none] 6 rfl (by decide) (Nat.le_of_ble_eq_true rfl) (fun k K => ?_)
  refine aw_il1 K dX7_oddest_0 ?_
  refine aw_i2l K dX7_oddest_1 ?_
  refine aw_lconst (v := 0) K dX7_oddest_2 (by decide) ?_
  refine aw_ldc2 K qX7_226 dX7_oddest_3 ?_
  refine aw_callS_I K (in32 l g sta _ _ (0) (2) (by decide) (by decide)) rfl (by decide) fX7_in lX7_102 dX7_oddest_6 rfl (Nat.le_of_ble_eq_true rfl) ?_
  refine aw_if_ne (tgt := 16) K dX7_oddest_9 (by decide) (fun b9 => ?_) (fun b9 => ?_)
  · refine aw_lconst (v := 1) K dX7_oddest_16 (by decide) ?_
    refine aw_ls2 K dX7_oddest_17 (by decide) rfl ?_
    refine aw_lconst (v := 1) K dX7_oddest_18 (by decide) ?_
    refine aw_ls4 K dX7_oddest_19 (by decide) rfl ?_
    refine aw_bipush (v := (-4)) K dX7_oddest_21 (by decide) ?_
    refine aw_is6 K dX7_oddest_23 (by decide) rfl ?_
    refine aw_iconst (v := 0) K dX7_oddest_25 (by decide) ?_
    refine aw_is7 K dX7_oddest_26 (by decide) rfl ?_
    exact lpX7_oddest K h a H (2 ^ N) 0 _ _ _ h (by omega) MS.rf
  · refine aw_ldc2 K qX7_307 dX7_oddest_12 ?_
    refine aw_lret K rfl dX7_oddest_15 ?_
    exact ⟨⟨_, rfl⟩, MS.rf⟩

def selV (v : Nat → Nat → Int32) (N : Nat) : Int32 := orU (fun a => if 0 < v 1 a ∧ v 3 a = 0 then (1 : Int32) <<< (nI a &&& 31) else 0) N
set_option maxHeartbeats 4000000 in
set_option maxRecDepth 100000 in
theorem tX7_sells (l : Launch) (g : Geo) (sta : Nat → Nat) (h : HS) (j : Nat) (hj : j < 12) : CT (wM l g sta) 1 mX7_sells [.ref (g.2.1 0), .int (nI j)] h (DI (bI (0 < h.1 1 j ∧ h.1 3 j = 0)) h) := by
  refine CT.at [some (.ref (g.2.1 0)), some (.int (nI j))] 0 rfl (by decide) (Nat.le_of_ble_eq_true rfl) (fun k K => ?_)
  refine aw_al0 K dX7_sells_0 ?_
  refine aw_getR K gX7_7 dX7_sells_1 rfl rfl ?_
  refine aw_il1 K dX7_sells_4 ?_
  refine aw_iald K dX7_sells_5 rfl (vp_in_nI (by omega) (by decide)) ?_
  rw [nI_clamp (show j < 2 ^ 31 by omega)]
  refine aw_if_le (tgt := 22) K dX7_sells_6 (by decide) (fun b6 => ?_) (fun b6 => ?_)
  · refine aw_iconst (v := 0) K dX7_sells_22 (by decide) ?_
    refine aw_zret K rfl dX7_sells_23 (by first | rfl | exact bI_nar _) ?_
    exact ⟨congrArg some (congrArg Value.int (bI_f (fun q => Int32.not_lt.mpr b6 q.1)).symm), rfl⟩
  · refine aw_al0 K dX7_sells_9 ?_
    refine aw_getR K gX7_17 dX7_sells_10 rfl rfl ?_
    refine aw_il1 K dX7_sells_13 ?_
    refine aw_zald K dX7_sells_14 rfl (vp_in_nI (by omega) (by decide)) ?_
    rw [nI_clamp (show j < 2 ^ 31 by omega)]
    refine aw_if_ne (tgt := 22) K dX7_sells_15 (by decide) (fun b15 => ?_) (fun b15 => ?_)
    · refine aw_iconst (v := 0) K dX7_sells_22 (by decide) ?_
      refine aw_zret K rfl dX7_sells_23 (by first | rfl | exact bI_nar _) ?_
      exact ⟨congrArg some (congrArg Value.int (bI_f (fun q => b15 q.2)).symm), rfl⟩
    · refine aw_iconst (v := 1) K dX7_sells_18 (by decide) ?_
      refine aw_goto (tgt := 23) K dX7_sells_19 (by decide) ?_
      refine aw_zret K rfl dX7_sells_23 (by first | rfl | exact bI_nar _) ?_
      exact ⟨congrArg some (congrArg Value.int (bI_t ⟨Int32.not_le.mp b6, b15⟩).symm), rfl⟩

set_option maxHeartbeats 4000000 in
set_option maxRecDepth 100000 in
theorem lpX7_sellers {l : Launch} {g : Geo} {sta : Nat → Nat} {k : KT} (K : AOK (wM l g sta) mX7_sellers k) (h : HS) {N T Wn : Nat} (H : MW h N T Wn) :
    ∀ (n i : Nat), i + n = N → AW (wM l g sta) (DI (selV h.1 N) h) 2 mX7_sellers k 4 [some (.ref (g.2.1 0)), some (.int (selV h.1 i)), some (.int (nI i))] [] h := by
  intro n
  have h3 := H.1.2
  induction n with
  | zero =>
    intro i k1
    obtain rfl : i = N := by omega
    refine aw_il2 K dX7_sellers_4 ?_
    refine aw_al0 K dX7_sellers_5 ?_
    refine aw_getI K gX7_98 dX7_sellers_6 rfl rfl ?_
    rw [H.1.1]
    refine aw_icmp_ge (tgt := 36) K dX7_sellers_9 (by decide) (fun b9 => ?_) (fun b9 => ?_)
    · refine aw_il1 K dX7_sellers_36 ?_
      refine aw_iret K rfl dX7_sellers_37 ?_
      exact ⟨rfl, rfl⟩
    · exact absurd (Int32.le_refl _) b9
  | succ n ih =>
    intro i k1
    refine aw_il2 K dX7_sellers_4 ?_
    refine aw_al0 K dX7_sellers_5 ?_
    refine aw_getI K gX7_98 dX7_sellers_6 rfl rfl ?_
    rw [H.1.1]
    refine aw_icmp_ge (tgt := 36) K dX7_sellers_9 (by decide) (fun b9 => ?_) (fun b9 => ?_)
    · exact absurd b9 (nI_ge (by omega) (by omega))
    · refine aw_il1 K dX7_sellers_12 ?_
      refine aw_al0 K dX7_sellers_13 ?_
      refine aw_il2 K dX7_sellers_14 ?_
      refine aw_callV_I K (tX7_sells l g sta _ i (by omega)) rfl (by decide) fX7_sells lX7_314 dX7_sellers_15 rfl clsX7 rfl (Nat.le_of_ble_eq_true rfl) ?_
      refine aw_if_eq (tgt := 27) K dX7_sellers_18 (by decide) (fun b18 => ?_) (fun b18 => ?_)
      · refine aw_iconst (v := 0) K dX7_sellers_27 (by decide) ?_
        refine aw_ior K dX7_sellers_28 ?_
        refine aw_is1 K dX7_sellers_29 (by decide) rfl ?_
        refine aw_ii2 (v := _ + 1) K dX7_sellers_30 rfl (by decide) rfl ?_
        refine aw_goto (tgt := 4) K dX7_sellers_33 (by decide) ?_
        rw [nI_1]
        have z := ih (i + 1) (by omega)
        rw [show selV h.1 (i + 1) = selV h.1 i ||| 0 from congrArg (selV h.1 i ||| ·) (if_neg (bI_0.mp b18))] at z
        exact z
      · refine aw_iconst (v := 1) K dX7_sellers_21 (by decide) ?_
        refine aw_il2 K dX7_sellers_22 ?_
        refine aw_ishl K dX7_sellers_23 ?_
        refine aw_goto (tgt := 28) K dX7_sellers_24 (by decide) ?_
        refine aw_ior K dX7_sellers_28 ?_
        refine aw_is1 K dX7_sellers_29 (by decide) rfl ?_
        refine aw_ii2 (v := _ + 1) K dX7_sellers_30 rfl (by decide) rfl ?_
        refine aw_goto (tgt := 4) K dX7_sellers_33 (by decide) ?_
        rw [nI_1]
        have z := ih (i + 1) (by omega)
        rw [show selV h.1 (i + 1) = selV h.1 i ||| (1 : Int32) <<< (nI i &&& 31) from congrArg (selV h.1 i ||| ·) (if_pos (bI_1.mp b18))] at z
        exact z
set_option maxHeartbeats 4000000 in
set_option maxRecDepth 100000 in
theorem tX7_sellers (l : Launch) (g : Geo) (sta : Nat → Nat) (h : HS) {N T Wn : Nat} (H : MW h N T Wn) : CT (wM l g sta) 2 mX7_sellers [.ref (g.2.1 0)] h (DI (selV h.1 N) h) := by
  refine CT.at [some (.ref (g.2.1 0)), none, none] 2 rfl (by decide) (Nat.le_of_ble_eq_true rfl) (fun k K => ?_)
  refine aw_iconst (v := 0) K dX7_sellers_0 (by decide) ?_
  refine aw_is1 K dX7_sellers_1 (by decide) rfl ?_
  refine aw_iconst (v := 0) K dX7_sellers_2 (by decide) ?_
  refine aw_is2 K dX7_sellers_3 (by decide) rfl ?_
  exact lpX7_sellers K h H N 0 (by omega)

set_option maxHeartbeats 4000000 in
set_option maxRecDepth 100000 in
theorem tX7_gain (l : Launch) (g : Geo) (sta : Nat → Nat) (h : HS) (a b c : Int32) {N T Wn : Nat} (H : MW h N T Wn) : CT (wM l g sta) 7 mX7_gain [.ref (g.2.1 0), .int a, .int b, .int c] h (MSI h) := by
  refine CT.at [some (.ref (g.2.1 0)), some (.int a), some (.int b), some (.int c)] 0 rfl (by decide) (Nat.le_of_ble_eq_true rfl) (fun k K => ?_)
  refine aw_al0 K dX7_gain_0 ?_
  refine aw_il1 K dX7_gain_1 ?_
  refine aw_callV_I K (tX7_areNames l g sta _ _) rfl (by decide) fX7_areNames lX7_223 dX7_gain_2 rfl clsX7 rfl (Nat.le_of_ble_eq_true rfl) ?_
  refine aw_if_eq (tgt := 43) K dX7_gain_5 (by decide) (fun b5 => ?_) (fun b5 => ?_)
  · refine aw_ldcw K qX7_320 dX7_gain_43 ?_
    refine aw_iret K rfl dX7_gain_46 ?_
    exact ⟨⟨_, rfl⟩, MS.rf⟩
  · refine aw_il1 K dX7_gain_8 ?_
    refine aw_al0 K dX7_gain_9 ?_
    refine aw_callV_I K (tX7_sellers l g sta _ H) rfl (by decide) fX7_sellers lX7_317 dX7_gain_10 rfl clsX7 rfl (Nat.le_of_ble_eq_true rfl) ?_
    refine aw_iconst (v := (-1)) K dX7_gain_13 (by decide) ?_
    refine aw_ixor K dX7_gain_14 ?_
    refine aw_iand K dX7_gain_15 ?_
    refine aw_if_ne (tgt := 43) K dX7_gain_16 (by decide) (fun b16 => ?_) (fun b16 => ?_)
    · refine aw_ldcw K qX7_320 dX7_gain_43 ?_
      refine aw_iret K rfl dX7_gain_46 ?_
      exact ⟨⟨_, rfl⟩, MS.rf⟩
    · refine aw_il2 K dX7_gain_19 ?_
      refine aw_i2l K dX7_gain_20 ?_
      refine aw_lconst (v := 1) K dX7_gain_21 (by decide) ?_
      refine aw_ldc2 K qX7_109 dX7_gain_22 ?_
      refine aw_callS_I K (in32 l g sta _ _ (1) (999) (by decide) (by decide)) rfl (by decide) fX7_in lX7_102 dX7_gain_25 rfl (Nat.le_of_ble_eq_true rfl) ?_
      refine aw_if_eq (tgt := 43) K dX7_gain_28 (by decide) (fun b28 => ?_) (fun b28 => ?_)
      · refine aw_ldcw K qX7_320 dX7_gain_43 ?_
        refine aw_iret K rfl dX7_gain_46 ?_
        exact ⟨⟨_, rfl⟩, MS.rf⟩
      · refine aw_il3 K dX7_gain_31 ?_
        refine aw_i2l K dX7_gain_32 ?_
        refine aw_lconst (v := 0) K dX7_gain_33 (by decide) ?_
        refine aw_ldc2 K qX7_231 dX7_gain_34 ?_
        refine aw_callS_I K (in32 l g sta _ _ (0) (99) (by decide) (by decide)) rfl (by decide) fX7_in lX7_102 dX7_gain_37 rfl (Nat.le_of_ble_eq_true rfl) ?_
        refine aw_if_ne (tgt := 47) K dX7_gain_40 (by decide) (fun b40 => ?_) (fun b40 => ?_)
        · refine aw_al0 K dX7_gain_47 ?_
          refine aw_il1 K dX7_gain_48 ?_
          refine aw_il2 K dX7_gain_49 ?_
          refine aw_il3 K dX7_gain_50 ?_
          refine aw_callV K (tX7_gainOf l g sta _ _ _ _ h H MS.rf) rfl (by decide) fX7_gainOf lX7_321 dX7_gain_51 rfl clsX7 rfl (Nat.le_of_ble_eq_true rfl) (fun o h2 hq => ?_)
          obtain ⟨⟨r, rfl⟩, hx⟩ := hq
          refine (show AW _ _ _ _ _ _ _ (.int r :: _) _ from ?_)
          refine aw_iret K rfl dX7_gain_54 ?_
          exact ⟨⟨_, rfl⟩, hx⟩
        · refine aw_ldcw K qX7_320 dX7_gain_43 ?_
          refine aw_iret K rfl dX7_gain_46 ?_
          exact ⟨⟨_, rfl⟩, MS.rf⟩

set_option maxHeartbeats 4000000 in
set_option maxRecDepth 100000 in
theorem lpX7_best {l : Launch} {g : Geo} {sta : Nat → Nat} {k : KT} (K : AOK (wM l g sta) mX7_best k) (h0 : HS) (a b c ca : Int32) {N T Wn : Nat} (H0 : MW h0 N T Wn) :
    ∀ (n i : Nat) (be mo : Int32) (h : HS), i + n = 2 ^ N → MS h0 h → AW (wM l g sta) (MSI h0) 7 mX7_best k 64 [some (.ref (g.2.1 0)), some (.int a), some (.int b), some (.int c), some (.int ca), some (.int be), some (.int mo), some (.int (nI i)), none] [] h := by
  intro n
  have hN := p2N H0.1.2
  induction n with
  | zero =>
    intro i be mo h k1 hx
    have H := H0.q hx
    obtain rfl : i = 2 ^ N := by omega
    refine aw_il7 K dX7_best_64 ?_
    refine aw_iconst (v := 1) K dX7_best_66 (by decide) ?_
    refine aw_al0 K dX7_best_67 ?_
    refine aw_getI K gX7_98 dX7_best_68 rfl rfl ?_
    refine aw_ishl K dX7_best_71 ?_
    rw [shN H.1.1 H.1.2]
    refine aw_icmp_ge (tgt := 133) K dX7_best_72 (by decide) (fun b72 => ?_) (fun b72 => ?_)
    · refine aw_il3 K dX7_best_133 ?_
      refine aw_if_ne (tgt := 142) K dX7_best_134 (by decide) (fun b134 => ?_) (fun b134 => ?_)
      · refine aw_il5 K dX7_best_142 ?_
        refine aw_iret K rfl dX7_best_144 ?_
        exact ⟨⟨_, rfl⟩, hx⟩
      · refine aw_il6 K dX7_best_137 ?_
        refine aw_goto (tgt := 144) K dX7_best_139 (by decide) ?_
        refine aw_iret K rfl dX7_best_144 ?_
        exact ⟨⟨_, rfl⟩, hx⟩
    · exact absurd (Int32.le_refl _) b72
  | succ n ih =>
    intro i be mo h k1 hx
    have H := H0.q hx
    refine aw_il7 K dX7_best_64 ?_
    refine aw_iconst (v := 1) K dX7_best_66 (by decide) ?_
    refine aw_al0 K dX7_best_67 ?_
    refine aw_getI K gX7_98 dX7_best_68 rfl rfl ?_
    refine aw_ishl K dX7_best_71 ?_
    rw [shN H.1.1 H.1.2]
    refine aw_icmp_ge (tgt := 133) K dX7_best_72 (by decide) (fun b72 => ?_) (fun b72 => ?_)
    · exact absurd b72 (nI_ge (by omega) (by omega))
    · refine aw_il7 K dX7_best_75 ?_
      refine aw_il4 K dX7_best_77 ?_
      refine aw_iconst (v := (-1)) K dX7_best_79 (by decide) ?_
      refine aw_ixor K dX7_best_80 ?_
      refine aw_iand K dX7_best_81 ?_
      refine aw_if_ne (tgt := 127) K dX7_best_82 (by decide) (fun b82 => ?_) (fun b82 => ?_)
      · refine aw_ii7 (v := _ + 1) K dX7_best_127 rfl (by decide) rfl ?_
        refine aw_goto (tgt := 64) K dX7_best_130 (by decide) ?_
        rw [nI_1]
        refine aw_sub [some (.ref (g.2.1 0)), some (.int _), some (.int _), some (.int _), some (.int _), some (.int _), some (.int _), some (.int _), none] ⟨rfl, rfl, rfl, rfl, rfl, rfl, rfl, rfl, trivial⟩ ?_
        exact ih (i + 1) _ _ _ (by omega) hx
      · refine aw_al0 K dX7_best_85 ?_
        refine aw_il7 K dX7_best_86 ?_
        refine aw_il1 K dX7_best_88 ?_
        refine aw_il2 K dX7_best_89 ?_
        refine aw_callV K (tX7_gainOf l g sta _ _ _ _ h0 H0 hx) rfl (by decide) fX7_gainOf lX7_321 dX7_best_90 rfl clsX7 rfl (Nat.le_of_ble_eq_true rfl) (fun o h2 hq => ?_)
        obtain ⟨⟨r, rfl⟩, hx2⟩ := hq
        refine (show AW _ _ _ _ _ _ _ (.int r :: _) _ from ?_)
        refine aw_is8 K dX7_best_93 (by decide) rfl ?_
        refine aw_il8 K dX7_best_95 ?_
        refine aw_il6 K dX7_best_97 ?_
        refine aw_icmp_le (tgt := 107) K dX7_best_99 (by decide) (fun b99 => ?_) (fun b99 => ?_)
        · refine aw_il5 K dX7_best_107 ?_
          refine aw_is5 K dX7_best_109 (by decide) rfl ?_
          refine aw_il8 K dX7_best_111 ?_
          refine aw_il6 K dX7_best_113 ?_
          refine aw_icmp_le (tgt := 123) K dX7_best_115 (by decide) (fun b115 => ?_) (fun b115 => ?_)
          · refine aw_il6 K dX7_best_123 ?_
            refine aw_is6 K dX7_best_125 (by decide) rfl ?_
            refine aw_ii7 (v := _ + 1) K dX7_best_127 rfl (by decide) rfl ?_
            refine aw_goto (tgt := 64) K dX7_best_130 (by decide) ?_
            rw [nI_1]
            refine aw_sub [some (.ref (g.2.1 0)), some (.int _), some (.int _), some (.int _), some (.int _), some (.int _), some (.int _), some (.int _), none] ⟨rfl, rfl, rfl, rfl, rfl, rfl, rfl, rfl, trivial⟩ ?_
            exact ih (i + 1) _ _ _ (by omega) hx2
          · refine aw_il8 K dX7_best_118 ?_
            refine aw_goto (tgt := 125) K dX7_best_120 (by decide) ?_
            refine aw_is6 K dX7_best_125 (by decide) rfl ?_
            refine aw_ii7 (v := _ + 1) K dX7_best_127 rfl (by decide) rfl ?_
            refine aw_goto (tgt := 64) K dX7_best_130 (by decide) ?_
            rw [nI_1]
            refine aw_sub [some (.ref (g.2.1 0)), some (.int _), some (.int _), some (.int _), some (.int _), some (.int _), some (.int _), some (.int _), none] ⟨rfl, rfl, rfl, rfl, rfl, rfl, rfl, rfl, trivial⟩ ?_
            exact ih (i + 1) _ _ _ (by omega) hx2
        · refine aw_il7 K dX7_best_102 ?_
          refine aw_goto (tgt := 109) K dX7_best_104 (by decide) ?_
          refine aw_is5 K dX7_best_109 (by decide) rfl ?_
          refine aw_il8 K dX7_best_111 ?_
          refine aw_il6 K dX7_best_113 ?_
          refine aw_icmp_le (tgt := 123) K dX7_best_115 (by decide) (fun b115 => ?_) (fun b115 => ?_)
          · refine aw_il6 K dX7_best_123 ?_
            refine aw_is6 K dX7_best_125 (by decide) rfl ?_
            refine aw_ii7 (v := _ + 1) K dX7_best_127 rfl (by decide) rfl ?_
            refine aw_goto (tgt := 64) K dX7_best_130 (by decide) ?_
            rw [nI_1]
            refine aw_sub [some (.ref (g.2.1 0)), some (.int _), some (.int _), some (.int _), some (.int _), some (.int _), some (.int _), some (.int _), none] ⟨rfl, rfl, rfl, rfl, rfl, rfl, rfl, rfl, trivial⟩ ?_
            exact ih (i + 1) _ _ _ (by omega) hx2
          · refine aw_il8 K dX7_best_118 ?_
            refine aw_goto (tgt := 125) K dX7_best_120 (by decide) ?_
            refine aw_is6 K dX7_best_125 (by decide) rfl ?_
            refine aw_ii7 (v := _ + 1) K dX7_best_127 rfl (by decide) rfl ?_
            refine aw_goto (tgt := 64) K dX7_best_130 (by decide) ?_
            rw [nI_1]
            refine aw_sub [some (.ref (g.2.1 0)), some (.int _), some (.int _), some (.int _), some (.int _), some (.int _), some (.int _), some (.int _), none] ⟨rfl, rfl, rfl, rfl, rfl, rfl, rfl, rfl, trivial⟩ ?_
            exact ih (i + 1) _ _ _ (by omega) hx2
set_option maxHeartbeats 4000000 in
set_option maxRecDepth 100000 in
theorem tX7_best (l : Launch) (g : Geo) (sta : Nat → Nat) (h : HS) (a b c : Int32) {N T Wn : Nat} (H : MW h N T Wn) : CT (wM l g sta) 7 mX7_best [.ref (g.2.1 0), .int a, .int b, .int c] h (MSI h) := by
  refine CT.at [some (.ref (g.2.1 0)), some (.int a), some (.int b), some (.int c), none, none, none, none, none] 5 rfl (by decide) (Nat.le_of_ble_eq_true rfl) (fun k K => ?_)
  refine aw_il1 K dX7_best_0 ?_
  refine aw_i2l K dX7_best_1 ?_
  refine aw_lconst (v := 1) K dX7_best_2 (by decide) ?_
  refine aw_ldc2 K qX7_109 dX7_best_3 ?_
  refine aw_callS_I K (in32 l g sta _ _ (1) (999) (by decide) (by decide)) rfl (by decide) fX7_in lX7_102 dX7_best_6 rfl (Nat.le_of_ble_eq_true rfl) ?_
  refine aw_if_eq (tgt := 34) K dX7_best_9 (by decide) (fun b9 => ?_) (fun b9 => ?_)
  · refine aw_iconst (v := (-1)) K dX7_best_34 (by decide) ?_
    refine aw_iret K rfl dX7_best_35 ?_
    exact ⟨⟨_, rfl⟩, MS.rf⟩
  · refine aw_il2 K dX7_best_12 ?_
    refine aw_i2l K dX7_best_13 ?_
    refine aw_lconst (v := 0) K dX7_best_14 (by decide) ?_
    refine aw_ldc2 K qX7_231 dX7_best_15 ?_
    refine aw_callS_I K (in32 l g sta _ _ (0) (99) (by decide) (by decide)) rfl (by decide) fX7_in lX7_102 dX7_best_18 rfl (Nat.le_of_ble_eq_true rfl) ?_
    refine aw_if_eq (tgt := 34) K dX7_best_21 (by decide) (fun b21 => ?_) (fun b21 => ?_)
    · refine aw_iconst (v := (-1)) K dX7_best_34 (by decide) ?_
      refine aw_iret K rfl dX7_best_35 ?_
      exact ⟨⟨_, rfl⟩, MS.rf⟩
    · refine aw_il3 K dX7_best_24 ?_
      refine aw_i2l K dX7_best_25 ?_
      refine aw_lconst (v := 0) K dX7_best_26 (by decide) ?_
      refine aw_lconst (v := 1) K dX7_best_27 (by decide) ?_
      refine aw_callS_I K (in32 l g sta _ _ (0) (1) (by decide) (by decide)) rfl (by decide) fX7_in lX7_102 dX7_best_28 rfl (Nat.le_of_ble_eq_true rfl) ?_
      refine aw_if_ne (tgt := 36) K dX7_best_31 (by decide) (fun b31 => ?_) (fun b31 => ?_)
      · refine aw_al0 K dX7_best_36 ?_
        refine aw_callV_I K (tX7_sellers l g sta _ H) rfl (by decide) fX7_sellers lX7_317 dX7_best_37 rfl clsX7 rfl (Nat.le_of_ble_eq_true rfl) ?_
        refine aw_is4 K dX7_best_40 (by decide) rfl ?_
        refine aw_il4 K dX7_best_42 ?_
        refine aw_callS_I K (tX7_bits l g sta _ _) rfl (by decide) fX7_bits lX7_144 dX7_best_44 rfl (Nat.le_of_ble_eq_true rfl) ?_
        refine aw_bipush (v := 8) K dX7_best_47 (by decide) ?_
        refine aw_icmp_le (tgt := 55) K dX7_best_49 (by decide) (fun b49 => ?_) (fun b49 => ?_)
        · refine aw_iconst (v := 0) K dX7_best_55 (by decide) ?_
          refine aw_is5 K dX7_best_56 (by decide) rfl ?_
          refine aw_iconst (v := 0) K dX7_best_58 (by decide) ?_
          refine aw_is6 K dX7_best_59 (by decide) rfl ?_
          refine aw_iconst (v := 1) K dX7_best_61 (by decide) ?_
          refine aw_is7 K dX7_best_62 (by decide) rfl ?_
          exact lpX7_best K h a b c _ H (2 ^ N - 1) 1 0 0 h (by have : 1 ≤ 2 ^ N := Nat.one_le_two_pow; omega) MS.rf
        · refine aw_bipush (v := (-2)) K dX7_best_52 (by decide) ?_
          refine aw_iret K rfl dX7_best_54 ?_
          exact ⟨⟨_, rfl⟩, MS.rf⟩
      · refine aw_iconst (v := (-1)) K dX7_best_34 (by decide) ?_
        refine aw_iret K rfl dX7_best_35 ?_
        exact ⟨⟨_, rfl⟩, MS.rf⟩

def cnV (v : Nat → Nat → Int32) (a : Int32) (N T Wn : Nat) : Int32 := if a.toInt = 0 then v 0 0 else if a.toInt = 1 then sumU (fun x => bI (¬ v 2 x = 0)) N else if a.toInt = 2 then sumU (fun x => bI (¬ v 3 x = 0)) N else if a.toInt = 3 then sumU (fun x => bI (v 0 12 < v 4 x)) N else if a.toInt = 4 then v 0 6 else if a.toInt = 5 then sumU (fun t => bI (0 < rmV v t)) T else if a.toInt = 6 then v 0 27 else if a.toInt = 7 then sumU (fun w => ctV v Wn w) Wn else if a.toInt = 8 then v 0 12 else if a.toInt = 9 then v 0 17 else if a.toInt = 10 then (if v 25 0 = -4 then -4 else v 26 0) else -1
set_option maxHeartbeats 4000000 in
set_option maxRecDepth 100000 in
theorem lp3X7_count {l : Launch} {g : Geo} {sta : Nat → Nat} {k : KT} (K : AOK (wM l g sta) mX7_count k) (h : HS) (a : Int32) {N T Wn : Nat} (H : MW h N T Wn) :
    ∀ (n i : Nat), i + n = Wn → AW (wM l g sta) (DI (cnV h.1 a N T Wn) h) 7 mX7_count k 126 [some (.ref (g.2.1 0)), some (.int a), some (.int (sumU (fun x => bI (¬ h.1 2 x = 0)) N)), some (.int (sumU (fun x => bI (¬ h.1 3 x = 0)) N)), some (.int (sumU (fun x => bI (h.1 0 12 < h.1 4 x)) N)), some (.int (sumU (fun t => bI (0 < rmV h.1 t)) T)), some (.int (sumU (fun w => ctV h.1 Wn w) i)), some (.int (nI i))] [] h := by
  intro n
  have h3 := H.2.2.1.2
  induction n with
  | zero =>
    intro i k1
    obtain rfl : i = Wn := by omega
    refine aw_il7 K dX7_count_126 ?_
    refine aw_al0 K dX7_count_128 ?_
    refine aw_getI K gX7_235 dX7_count_129 rfl rfl ?_
    rw [H.2.2.1.1]
    refine aw_icmp_ge (tgt := 160) K dX7_count_132 (by decide) (fun b132 => ?_) (fun b132 => ?_)
    · refine aw_il1 K dX7_count_160 ?_
      refine aw_tsw (tgt := 281) K dX7_count_161 (by decide) (by decide) (by decide) ⟨fun s0 => ?_, fun s1 => ?_, fun s2 => ?_, fun s3 => ?_, fun s4 => ?_, fun s5 => ?_, fun s6 => ?_, fun s7 => ?_, fun s8 => ?_, fun s9 => ?_, fun s10 => ?_, trivial⟩ (fun sd => ?_)
      · show AW _ _ _ _ _ 220 _ _ _
        refine aw_al0 K dX7_count_220 ?_
        refine aw_getI K gX7_98 dX7_count_221 rfl rfl ?_
        refine aw_iret K rfl dX7_count_224 ?_
        refine ⟨?_, rfl⟩
        rw [cnV, if_pos (show a.toInt = 0 from s0)]
      · show AW _ _ _ _ _ 225 _ _ _
        refine aw_il2 K dX7_count_225 ?_
        refine aw_iret K rfl dX7_count_226 ?_
        refine ⟨?_, rfl⟩
        rw [cnV, if_neg (by rw [s1]; decide), if_pos (show a.toInt = 1 from s1)]
      · show AW _ _ _ _ _ 227 _ _ _
        refine aw_il3 K dX7_count_227 ?_
        refine aw_iret K rfl dX7_count_228 ?_
        refine ⟨?_, rfl⟩
        rw [cnV, if_neg (by rw [s2]; decide), if_neg (by rw [s2]; decide), if_pos (show a.toInt = 2 from s2)]
      · show AW _ _ _ _ _ 229 _ _ _
        refine aw_il4 K dX7_count_229 ?_
        refine aw_iret K rfl dX7_count_231 ?_
        refine ⟨?_, rfl⟩
        rw [cnV, if_neg (by rw [s3]; decide), if_neg (by rw [s3]; decide), if_neg (by rw [s3]; decide), if_pos (show a.toInt = 3 from s3)]
      · show AW _ _ _ _ _ 232 _ _ _
        refine aw_al0 K dX7_count_232 ?_
        refine aw_getI K gX7_121 dX7_count_233 rfl rfl ?_
        refine aw_iret K rfl dX7_count_236 ?_
        refine ⟨?_, rfl⟩
        rw [cnV, if_neg (by rw [s4]; decide), if_neg (by rw [s4]; decide), if_neg (by rw [s4]; decide), if_neg (by rw [s4]; decide), if_pos (show a.toInt = 4 from s4)]
      · show AW _ _ _ _ _ 237 _ _ _
        refine aw_il5 K dX7_count_237 ?_
        refine aw_iret K rfl dX7_count_239 ?_
        refine ⟨?_, rfl⟩
        rw [cnV, if_neg (by rw [s5]; decide), if_neg (by rw [s5]; decide), if_neg (by rw [s5]; decide), if_neg (by rw [s5]; decide), if_neg (by rw [s5]; decide), if_pos (show a.toInt = 5 from s5)]
      · show AW _ _ _ _ _ 240 _ _ _
        refine aw_al0 K dX7_count_240 ?_
        refine aw_getI K gX7_235 dX7_count_241 rfl rfl ?_
        refine aw_iret K rfl dX7_count_244 ?_
        refine ⟨?_, rfl⟩
        rw [cnV, if_neg (by rw [s6]; decide), if_neg (by rw [s6]; decide), if_neg (by rw [s6]; decide), if_neg (by rw [s6]; decide), if_neg (by rw [s6]; decide), if_neg (by rw [s6]; decide), if_pos (show a.toInt = 6 from s6)]
      · show AW _ _ _ _ _ 245 _ _ _
        refine aw_il6 K dX7_count_245 ?_
        refine aw_iret K rfl dX7_count_247 ?_
        refine ⟨?_, rfl⟩
        rw [cnV, if_neg (by rw [s7]; decide), if_neg (by rw [s7]; decide), if_neg (by rw [s7]; decide), if_neg (by rw [s7]; decide), if_neg (by rw [s7]; decide), if_neg (by rw [s7]; decide), if_neg (by rw [s7]; decide), if_pos (show a.toInt = 7 from s7)]
      · show AW _ _ _ _ _ 248 _ _ _
        refine aw_al0 K dX7_count_248 ?_
        refine aw_getI K gX7_106 dX7_count_249 rfl rfl ?_
        refine aw_iret K rfl dX7_count_252 ?_
        refine ⟨?_, rfl⟩
        rw [cnV, if_neg (by rw [s8]; decide), if_neg (by rw [s8]; decide), if_neg (by rw [s8]; decide), if_neg (by rw [s8]; decide), if_neg (by rw [s8]; decide), if_neg (by rw [s8]; decide), if_neg (by rw [s8]; decide), if_neg (by rw [s8]; decide), if_pos (show a.toInt = 8 from s8)]
      · show AW _ _ _ _ _ 253 _ _ _
        refine aw_al0 K dX7_count_253 ?_
        refine aw_getI K gX7_149 dX7_count_254 rfl rfl ?_
        refine aw_iret K rfl dX7_count_257 ?_
        refine ⟨?_, rfl⟩
        rw [cnV, if_neg (by rw [s9]; decide), if_neg (by rw [s9]; decide), if_neg (by rw [s9]; decide), if_neg (by rw [s9]; decide), if_neg (by rw [s9]; decide), if_neg (by rw [s9]; decide), if_neg (by rw [s9]; decide), if_neg (by rw [s9]; decide), if_neg (by rw [s9]; decide), if_pos (show a.toInt = 9 from s9)]
      · show AW _ _ _ _ _ 258 _ _ _
        refine aw_al0 K dX7_count_258 ?_
        refine aw_getR K gX7_83 dX7_count_259 rfl rfl ?_
        refine aw_iconst (v := 0) K dX7_count_262 (by decide) ?_
        refine aw_iald K dX7_count_263 rfl (vp_in_nI (n := 0) (by decide) (by decide)) ?_
        refine aw_bipush (v := (-4)) K dX7_count_264 (by decide) ?_
        refine aw_icmp_ne (tgt := 274) K dX7_count_266 (by decide) (fun b266 => ?_) (fun b266 => ?_)
        · refine aw_al0 K dX7_count_274 ?_
          refine aw_getR K gX7_86 dX7_count_275 rfl rfl ?_
          refine aw_iconst (v := 0) K dX7_count_278 (by decide) ?_
          refine aw_iald K dX7_count_279 rfl (vp_in_nI (n := 0) (by decide) (by decide)) ?_
          refine aw_iret K rfl dX7_count_280 ?_
          refine ⟨?_, rfl⟩
          rw [cnV, if_neg (by rw [s10]; decide), if_neg (by rw [s10]; decide), if_neg (by rw [s10]; decide), if_neg (by rw [s10]; decide), if_neg (by rw [s10]; decide), if_neg (by rw [s10]; decide), if_neg (by rw [s10]; decide), if_neg (by rw [s10]; decide), if_neg (by rw [s10]; decide), if_neg (by rw [s10]; decide), if_pos (show a.toInt = 10 from s10), if_neg (show ¬ h.1 25 0 = -4 from b266)]
          rfl
        · refine aw_bipush (v := (-4)) K dX7_count_269 (by decide) ?_
          refine aw_goto (tgt := 280) K dX7_count_271 (by decide) ?_
          refine aw_iret K rfl dX7_count_280 ?_
          refine ⟨?_, rfl⟩
          rw [cnV, if_neg (by rw [s10]; decide), if_neg (by rw [s10]; decide), if_neg (by rw [s10]; decide), if_neg (by rw [s10]; decide), if_neg (by rw [s10]; decide), if_neg (by rw [s10]; decide), if_neg (by rw [s10]; decide), if_neg (by rw [s10]; decide), if_neg (by rw [s10]; decide), if_neg (by rw [s10]; decide), if_pos (show a.toInt = 10 from s10), if_pos (show h.1 25 0 = -4 from b266)]
      · show AW _ _ _ _ _ 281 _ _ _
        refine aw_iconst (v := (-1)) K dX7_count_281 (by decide) ?_
        refine aw_iret K rfl dX7_count_282 ?_
        refine ⟨?_, rfl⟩
        rw [cnV, if_neg (show ¬ a.toInt = 0 by omega), if_neg (show ¬ a.toInt = 1 by omega), if_neg (show ¬ a.toInt = 2 by omega), if_neg (show ¬ a.toInt = 3 by omega), if_neg (show ¬ a.toInt = 4 by omega), if_neg (show ¬ a.toInt = 5 by omega), if_neg (show ¬ a.toInt = 6 by omega), if_neg (show ¬ a.toInt = 7 by omega), if_neg (show ¬ a.toInt = 8 by omega), if_neg (show ¬ a.toInt = 9 by omega), if_neg (show ¬ a.toInt = 10 by omega)]
    · exact absurd (Int32.le_refl _) b132
  | succ n ih =>
    intro i k1
    refine aw_il7 K dX7_count_126 ?_
    refine aw_al0 K dX7_count_128 ?_
    refine aw_getI K gX7_235 dX7_count_129 rfl rfl ?_
    rw [H.2.2.1.1]
    refine aw_icmp_ge (tgt := 160) K dX7_count_132 (by decide) (fun b132 => ?_) (fun b132 => ?_)
    · exact absurd b132 (nI_ge (by omega) (by omega))
    · refine aw_il6 K dX7_count_135 ?_
      refine aw_al0 K dX7_count_137 ?_
      refine aw_il7 K dX7_count_138 ?_
      refine aw_callV_I K (tX7_counts l g sta _ i (by omega) H (by omega)) rfl (by decide) fX7_counts lX7_249 dX7_count_140 rfl clsX7 rfl (Nat.le_of_ble_eq_true rfl) ?_
      refine aw_if_eq (tgt := 150) K dX7_count_143 (by decide) (fun b143 => ?_) (fun b143 => ?_)
      · refine aw_iconst (v := 0) K dX7_count_150 (by decide) ?_
        refine aw_iadd K dX7_count_151 ?_
        refine aw_is6 K dX7_count_152 (by decide) rfl ?_
        refine aw_ii7 (v := _ + 1) K dX7_count_154 rfl (by decide) rfl ?_
        refine aw_goto (tgt := 126) K dX7_count_157 (by decide) ?_
        rw [nI_1]
        have z := ih (i + 1) (by omega)
        rw [show sumU (fun w => ctV h.1 Wn w) (i + 1) = sumU (fun w => ctV h.1 Wn w) i + 0 from congrArg (sumU (fun w => ctV h.1 Wn w) i + ·) (b143)] at z
        exact z
      · refine aw_iconst (v := 1) K dX7_count_146 (by decide) ?_
        refine aw_goto (tgt := 151) K dX7_count_147 (by decide) ?_
        refine aw_iadd K dX7_count_151 ?_
        refine aw_is6 K dX7_count_152 (by decide) rfl ?_
        refine aw_ii7 (v := _ + 1) K dX7_count_154 rfl (by decide) rfl ?_
        refine aw_goto (tgt := 126) K dX7_count_157 (by decide) ?_
        rw [nI_1]
        have z := ih (i + 1) (by omega)
        rw [show sumU (fun w => ctV h.1 Wn w) (i + 1) = sumU (fun w => ctV h.1 Wn w) i + 1 from congrArg (sumU (fun w => ctV h.1 Wn w) i + ·) ((ctV_01 _ _ _).resolve_right b143)] at z
        exact z
set_option maxHeartbeats 4000000 in
set_option maxRecDepth 100000 in
theorem lp2X7_count {l : Launch} {g : Geo} {sta : Nat → Nat} {k : KT} (K : AOK (wM l g sta) mX7_count k) (h : HS) (a : Int32) {N T Wn : Nat} (H : MW h N T Wn) :
    ∀ (n i : Nat), i + n = T → AW (wM l g sta) (DI (cnV h.1 a N T Wn) h) 7 mX7_count k 89 [some (.ref (g.2.1 0)), some (.int a), some (.int (sumU (fun x => bI (¬ h.1 2 x = 0)) N)), some (.int (sumU (fun x => bI (¬ h.1 3 x = 0)) N)), some (.int (sumU (fun x => bI (h.1 0 12 < h.1 4 x)) N)), some (.int (sumU (fun t => bI (0 < rmV h.1 t)) i)), some (.int (0)), some (.int (nI i))] [] h := by
  intro n
  have h3 := H.2.1.2
  induction n with
  | zero =>
    intro i k1
    obtain rfl : i = T := by omega
    refine aw_il7 K dX7_count_89 ?_
    refine aw_al0 K dX7_count_91 ?_
    refine aw_getI K gX7_121 dX7_count_92 rfl rfl ?_
    rw [H.2.1.1]
    refine aw_icmp_ge (tgt := 123) K dX7_count_95 (by decide) (fun b95 => ?_) (fun b95 => ?_)
    · refine aw_iconst (v := 0) K dX7_count_123 (by decide) ?_
      refine aw_is7 K dX7_count_124 (by decide) rfl ?_
      exact lp3X7_count K h a H Wn 0 (by omega)
    · exact absurd (Int32.le_refl _) b95
  | succ n ih =>
    intro i k1
    refine aw_il7 K dX7_count_89 ?_
    refine aw_al0 K dX7_count_91 ?_
    refine aw_getI K gX7_121 dX7_count_92 rfl rfl ?_
    rw [H.2.1.1]
    refine aw_icmp_ge (tgt := 123) K dX7_count_95 (by decide) (fun b95 => ?_) (fun b95 => ?_)
    · exact absurd b95 (nI_ge (by omega) (by omega))
    · refine aw_il5 K dX7_count_98 ?_
      refine aw_al0 K dX7_count_100 ?_
      refine aw_il7 K dX7_count_101 ?_
      refine aw_callV_I K (tX7_roomOf l g sta _ _ (vp_in_nI (by omega) (by decide)) H) rfl (by decide) fX7_roomOf lX7_136 dX7_count_103 rfl clsX7 rfl (Nat.le_of_ble_eq_true rfl) ?_
      rw [nI_clamp (show i < 2 ^ 31 by omega)]
      refine aw_if_le (tgt := 113) K dX7_count_106 (by decide) (fun b106 => ?_) (fun b106 => ?_)
      · refine aw_iconst (v := 0) K dX7_count_113 (by decide) ?_
        refine aw_iadd K dX7_count_114 ?_
        refine aw_is5 K dX7_count_115 (by decide) rfl ?_
        refine aw_ii7 (v := _ + 1) K dX7_count_117 rfl (by decide) rfl ?_
        refine aw_goto (tgt := 89) K dX7_count_120 (by decide) ?_
        rw [nI_1]
        have z := ih (i + 1) (by omega)
        rw [show sumU (fun t => bI (0 < rmV h.1 t)) (i + 1) = sumU (fun t => bI (0 < rmV h.1 t)) i + 0 from congrArg (sumU (fun t => bI (0 < rmV h.1 t)) i + ·) (bI_f (Int32.not_lt.mpr b106))] at z
        exact z
      · refine aw_iconst (v := 1) K dX7_count_109 (by decide) ?_
        refine aw_goto (tgt := 114) K dX7_count_110 (by decide) ?_
        refine aw_iadd K dX7_count_114 ?_
        refine aw_is5 K dX7_count_115 (by decide) rfl ?_
        refine aw_ii7 (v := _ + 1) K dX7_count_117 rfl (by decide) rfl ?_
        refine aw_goto (tgt := 89) K dX7_count_120 (by decide) ?_
        rw [nI_1]
        have z := ih (i + 1) (by omega)
        rw [show sumU (fun t => bI (0 < rmV h.1 t)) (i + 1) = sumU (fun t => bI (0 < rmV h.1 t)) i + 1 from congrArg (sumU (fun t => bI (0 < rmV h.1 t)) i + ·) (bI_t (Int32.not_le.mp b106))] at z
        exact z
set_option maxHeartbeats 4000000 in
set_option maxRecDepth 100000 in
theorem lp1X7_count {l : Launch} {g : Geo} {sta : Nat → Nat} {k : KT} (K : AOK (wM l g sta) mX7_count k) (h : HS) (a : Int32) {N T Wn : Nat} (H : MW h N T Wn) :
    ∀ (n i : Nat), i + n = N → AW (wM l g sta) (DI (cnV h.1 a N T Wn) h) 7 mX7_count k 16 [some (.ref (g.2.1 0)), some (.int a), some (.int (sumU (fun x => bI (¬ h.1 2 x = 0)) i)), some (.int (sumU (fun x => bI (¬ h.1 3 x = 0)) i)), some (.int (sumU (fun x => bI (h.1 0 12 < h.1 4 x)) i)), some (.int (0)), some (.int (0)), some (.int (nI i))] [] h := by
  intro n
  have h3 := H.1.2
  induction n with
  | zero =>
    intro i k1
    obtain rfl : i = N := by omega
    refine aw_il7 K dX7_count_16 ?_
    refine aw_al0 K dX7_count_18 ?_
    refine aw_getI K gX7_98 dX7_count_19 rfl rfl ?_
    rw [H.1.1]
    refine aw_icmp_ge (tgt := 86) K dX7_count_22 (by decide) (fun b22 => ?_) (fun b22 => ?_)
    · refine aw_iconst (v := 0) K dX7_count_86 (by decide) ?_
      refine aw_is7 K dX7_count_87 (by decide) rfl ?_
      exact lp2X7_count K h a H T 0 (by omega)
    · exact absurd (Int32.le_refl _) b22
  | succ n ih =>
    intro i k1
    refine aw_il7 K dX7_count_16 ?_
    refine aw_al0 K dX7_count_18 ?_
    refine aw_getI K gX7_98 dX7_count_19 rfl rfl ?_
    rw [H.1.1]
    refine aw_icmp_ge (tgt := 86) K dX7_count_22 (by decide) (fun b22 => ?_) (fun b22 => ?_)
    · exact absurd b22 (nI_ge (by omega) (by omega))
    · refine aw_il2 K dX7_count_25 ?_
      refine aw_al0 K dX7_count_26 ?_
      refine aw_getR K gX7_13 dX7_count_27 rfl rfl ?_
      refine aw_il7 K dX7_count_30 ?_
      refine aw_zald K dX7_count_32 rfl (vp_in_nI (by omega) (by decide)) ?_
      rw [nI_clamp (show i < 2 ^ 31 by omega)]
      refine aw_if_eq (tgt := 40) K dX7_count_33 (by decide) (fun b33 => ?_) (fun b33 => ?_)
      · refine aw_iconst (v := 0) K dX7_count_40 (by decide) ?_
        refine aw_iadd K dX7_count_41 ?_
        refine aw_is2 K dX7_count_42 (by decide) rfl ?_
        refine aw_il3 K dX7_count_43 ?_
        refine aw_al0 K dX7_count_44 ?_
        refine aw_getR K gX7_17 dX7_count_45 rfl rfl ?_
        refine aw_il7 K dX7_count_48 ?_
        refine aw_zald K dX7_count_50 rfl (vp_in_nI (by omega) (by decide)) ?_
        rw [nI_clamp (show i < 2 ^ 31 by omega)]
        refine aw_if_eq (tgt := 58) K dX7_count_51 (by decide) (fun b51 => ?_) (fun b51 => ?_)
        · refine aw_iconst (v := 0) K dX7_count_58 (by decide) ?_
          refine aw_iadd K dX7_count_59 ?_
          refine aw_is3 K dX7_count_60 (by decide) rfl ?_
          refine aw_il4 K dX7_count_61 ?_
          refine aw_al0 K dX7_count_63 ?_
          refine aw_il7 K dX7_count_64 ?_
          refine aw_callV_I K (tX7_isFined l g sta _ _ (vp_in_nI (by omega) (by decide))) rfl (by decide) fX7_isFined lX7_128 dX7_count_66 rfl clsX7 rfl (Nat.le_of_ble_eq_true rfl) ?_
          rw [nI_clamp (show i < 2 ^ 31 by omega)]
          refine aw_if_eq (tgt := 76) K dX7_count_69 (by decide) (fun b69 => ?_) (fun b69 => ?_)
          · refine aw_iconst (v := 0) K dX7_count_76 (by decide) ?_
            refine aw_iadd K dX7_count_77 ?_
            refine aw_is4 K dX7_count_78 (by decide) rfl ?_
            refine aw_ii7 (v := _ + 1) K dX7_count_80 rfl (by decide) rfl ?_
            refine aw_goto (tgt := 16) K dX7_count_83 (by decide) ?_
            rw [nI_1]
            have z := ih (i + 1) (by omega)
            rw [show sumU (fun x => bI (¬ h.1 2 x = 0)) (i + 1) = sumU (fun x => bI (¬ h.1 2 x = 0)) i + 0 from congrArg (sumU (fun x => bI (¬ h.1 2 x = 0)) i + ·) (bI_f (fun q => q b33)), show sumU (fun x => bI (¬ h.1 3 x = 0)) (i + 1) = sumU (fun x => bI (¬ h.1 3 x = 0)) i + 0 from congrArg (sumU (fun x => bI (¬ h.1 3 x = 0)) i + ·) (bI_f (fun q => q b51)), show sumU (fun x => bI (h.1 0 12 < h.1 4 x)) (i + 1) = sumU (fun x => bI (h.1 0 12 < h.1 4 x)) i + 0 from congrArg (sumU (fun x => bI (h.1 0 12 < h.1 4 x)) i + ·) (b69)] at z
            exact z
          · refine aw_iconst (v := 1) K dX7_count_72 (by decide) ?_
            refine aw_goto (tgt := 77) K dX7_count_73 (by decide) ?_
            refine aw_iadd K dX7_count_77 ?_
            refine aw_is4 K dX7_count_78 (by decide) rfl ?_
            refine aw_ii7 (v := _ + 1) K dX7_count_80 rfl (by decide) rfl ?_
            refine aw_goto (tgt := 16) K dX7_count_83 (by decide) ?_
            rw [nI_1]
            have z := ih (i + 1) (by omega)
            rw [show sumU (fun x => bI (¬ h.1 2 x = 0)) (i + 1) = sumU (fun x => bI (¬ h.1 2 x = 0)) i + 0 from congrArg (sumU (fun x => bI (¬ h.1 2 x = 0)) i + ·) (bI_f (fun q => q b33)), show sumU (fun x => bI (¬ h.1 3 x = 0)) (i + 1) = sumU (fun x => bI (¬ h.1 3 x = 0)) i + 0 from congrArg (sumU (fun x => bI (¬ h.1 3 x = 0)) i + ·) (bI_f (fun q => q b51)), show sumU (fun x => bI (h.1 0 12 < h.1 4 x)) (i + 1) = sumU (fun x => bI (h.1 0 12 < h.1 4 x)) i + 1 from congrArg (sumU (fun x => bI (h.1 0 12 < h.1 4 x)) i + ·) (bI_t (bI_1.mp b69))] at z
            exact z
        · refine aw_iconst (v := 1) K dX7_count_54 (by decide) ?_
          refine aw_goto (tgt := 59) K dX7_count_55 (by decide) ?_
          refine aw_iadd K dX7_count_59 ?_
          refine aw_is3 K dX7_count_60 (by decide) rfl ?_
          refine aw_il4 K dX7_count_61 ?_
          refine aw_al0 K dX7_count_63 ?_
          refine aw_il7 K dX7_count_64 ?_
          refine aw_callV_I K (tX7_isFined l g sta _ _ (vp_in_nI (by omega) (by decide))) rfl (by decide) fX7_isFined lX7_128 dX7_count_66 rfl clsX7 rfl (Nat.le_of_ble_eq_true rfl) ?_
          rw [nI_clamp (show i < 2 ^ 31 by omega)]
          refine aw_if_eq (tgt := 76) K dX7_count_69 (by decide) (fun b69 => ?_) (fun b69 => ?_)
          · refine aw_iconst (v := 0) K dX7_count_76 (by decide) ?_
            refine aw_iadd K dX7_count_77 ?_
            refine aw_is4 K dX7_count_78 (by decide) rfl ?_
            refine aw_ii7 (v := _ + 1) K dX7_count_80 rfl (by decide) rfl ?_
            refine aw_goto (tgt := 16) K dX7_count_83 (by decide) ?_
            rw [nI_1]
            have z := ih (i + 1) (by omega)
            rw [show sumU (fun x => bI (¬ h.1 2 x = 0)) (i + 1) = sumU (fun x => bI (¬ h.1 2 x = 0)) i + 0 from congrArg (sumU (fun x => bI (¬ h.1 2 x = 0)) i + ·) (bI_f (fun q => q b33)), show sumU (fun x => bI (¬ h.1 3 x = 0)) (i + 1) = sumU (fun x => bI (¬ h.1 3 x = 0)) i + 1 from congrArg (sumU (fun x => bI (¬ h.1 3 x = 0)) i + ·) (bI_t b51), show sumU (fun x => bI (h.1 0 12 < h.1 4 x)) (i + 1) = sumU (fun x => bI (h.1 0 12 < h.1 4 x)) i + 0 from congrArg (sumU (fun x => bI (h.1 0 12 < h.1 4 x)) i + ·) (b69)] at z
            exact z
          · refine aw_iconst (v := 1) K dX7_count_72 (by decide) ?_
            refine aw_goto (tgt := 77) K dX7_count_73 (by decide) ?_
            refine aw_iadd K dX7_count_77 ?_
            refine aw_is4 K dX7_count_78 (by decide) rfl ?_
            refine aw_ii7 (v := _ + 1) K dX7_count_80 rfl (by decide) rfl ?_
            refine aw_goto (tgt := 16) K dX7_count_83 (by decide) ?_
            rw [nI_1]
            have z := ih (i + 1) (by omega)
            rw [show sumU (fun x => bI (¬ h.1 2 x = 0)) (i + 1) = sumU (fun x => bI (¬ h.1 2 x = 0)) i + 0 from congrArg (sumU (fun x => bI (¬ h.1 2 x = 0)) i + ·) (bI_f (fun q => q b33)), show sumU (fun x => bI (¬ h.1 3 x = 0)) (i + 1) = sumU (fun x => bI (¬ h.1 3 x = 0)) i + 1 from congrArg (sumU (fun x => bI (¬ h.1 3 x = 0)) i + ·) (bI_t b51), show sumU (fun x => bI (h.1 0 12 < h.1 4 x)) (i + 1) = sumU (fun x => bI (h.1 0 12 < h.1 4 x)) i + 1 from congrArg (sumU (fun x => bI (h.1 0 12 < h.1 4 x)) i + ·) (bI_t (bI_1.mp b69))] at z
            exact z
      · refine aw_iconst (v := 1) K dX7_count_36 (by decide) ?_
        refine aw_goto (tgt := 41) K dX7_count_37 (by decide) ?_
        refine aw_iadd K dX7_count_41 ?_
        refine aw_is2 K dX7_count_42 (by decide) rfl ?_
        refine aw_il3 K dX7_count_43 ?_
        refine aw_al0 K dX7_count_44 ?_
        refine aw_getR K gX7_17 dX7_count_45 rfl rfl ?_
        refine aw_il7 K dX7_count_48 ?_
        refine aw_zald K dX7_count_50 rfl (vp_in_nI (by omega) (by decide)) ?_
        rw [nI_clamp (show i < 2 ^ 31 by omega)]
        refine aw_if_eq (tgt := 58) K dX7_count_51 (by decide) (fun b51 => ?_) (fun b51 => ?_)
        · refine aw_iconst (v := 0) K dX7_count_58 (by decide) ?_
          refine aw_iadd K dX7_count_59 ?_
          refine aw_is3 K dX7_count_60 (by decide) rfl ?_
          refine aw_il4 K dX7_count_61 ?_
          refine aw_al0 K dX7_count_63 ?_
          refine aw_il7 K dX7_count_64 ?_
          refine aw_callV_I K (tX7_isFined l g sta _ _ (vp_in_nI (by omega) (by decide))) rfl (by decide) fX7_isFined lX7_128 dX7_count_66 rfl clsX7 rfl (Nat.le_of_ble_eq_true rfl) ?_
          rw [nI_clamp (show i < 2 ^ 31 by omega)]
          refine aw_if_eq (tgt := 76) K dX7_count_69 (by decide) (fun b69 => ?_) (fun b69 => ?_)
          · refine aw_iconst (v := 0) K dX7_count_76 (by decide) ?_
            refine aw_iadd K dX7_count_77 ?_
            refine aw_is4 K dX7_count_78 (by decide) rfl ?_
            refine aw_ii7 (v := _ + 1) K dX7_count_80 rfl (by decide) rfl ?_
            refine aw_goto (tgt := 16) K dX7_count_83 (by decide) ?_
            rw [nI_1]
            have z := ih (i + 1) (by omega)
            rw [show sumU (fun x => bI (¬ h.1 2 x = 0)) (i + 1) = sumU (fun x => bI (¬ h.1 2 x = 0)) i + 1 from congrArg (sumU (fun x => bI (¬ h.1 2 x = 0)) i + ·) (bI_t b33), show sumU (fun x => bI (¬ h.1 3 x = 0)) (i + 1) = sumU (fun x => bI (¬ h.1 3 x = 0)) i + 0 from congrArg (sumU (fun x => bI (¬ h.1 3 x = 0)) i + ·) (bI_f (fun q => q b51)), show sumU (fun x => bI (h.1 0 12 < h.1 4 x)) (i + 1) = sumU (fun x => bI (h.1 0 12 < h.1 4 x)) i + 0 from congrArg (sumU (fun x => bI (h.1 0 12 < h.1 4 x)) i + ·) (b69)] at z
            exact z
          · refine aw_iconst (v := 1) K dX7_count_72 (by decide) ?_
            refine aw_goto (tgt := 77) K dX7_count_73 (by decide) ?_
            refine aw_iadd K dX7_count_77 ?_
            refine aw_is4 K dX7_count_78 (by decide) rfl ?_
            refine aw_ii7 (v := _ + 1) K dX7_count_80 rfl (by decide) rfl ?_
            refine aw_goto (tgt := 16) K dX7_count_83 (by decide) ?_
            rw [nI_1]
            have z := ih (i + 1) (by omega)
            rw [show sumU (fun x => bI (¬ h.1 2 x = 0)) (i + 1) = sumU (fun x => bI (¬ h.1 2 x = 0)) i + 1 from congrArg (sumU (fun x => bI (¬ h.1 2 x = 0)) i + ·) (bI_t b33), show sumU (fun x => bI (¬ h.1 3 x = 0)) (i + 1) = sumU (fun x => bI (¬ h.1 3 x = 0)) i + 0 from congrArg (sumU (fun x => bI (¬ h.1 3 x = 0)) i + ·) (bI_f (fun q => q b51)), show sumU (fun x => bI (h.1 0 12 < h.1 4 x)) (i + 1) = sumU (fun x => bI (h.1 0 12 < h.1 4 x)) i + 1 from congrArg (sumU (fun x => bI (h.1 0 12 < h.1 4 x)) i + ·) (bI_t (bI_1.mp b69))] at z
            exact z
        · refine aw_iconst (v := 1) K dX7_count_54 (by decide) ?_
          refine aw_goto (tgt := 59) K dX7_count_55 (by decide) ?_
          refine aw_iadd K dX7_count_59 ?_
          refine aw_is3 K dX7_count_60 (by decide) rfl ?_
          refine aw_il4 K dX7_count_61 ?_
          refine aw_al0 K dX7_count_63 ?_
          refine aw_il7 K dX7_count_64 ?_
          refine aw_callV_I K (tX7_isFined l g sta _ _ (vp_in_nI (by omega) (by decide))) rfl (by decide) fX7_isFined lX7_128 dX7_count_66 rfl clsX7 rfl (Nat.le_of_ble_eq_true rfl) ?_
          rw [nI_clamp (show i < 2 ^ 31 by omega)]
          refine aw_if_eq (tgt := 76) K dX7_count_69 (by decide) (fun b69 => ?_) (fun b69 => ?_)
          · refine aw_iconst (v := 0) K dX7_count_76 (by decide) ?_
            refine aw_iadd K dX7_count_77 ?_
            refine aw_is4 K dX7_count_78 (by decide) rfl ?_
            refine aw_ii7 (v := _ + 1) K dX7_count_80 rfl (by decide) rfl ?_
            refine aw_goto (tgt := 16) K dX7_count_83 (by decide) ?_
            rw [nI_1]
            have z := ih (i + 1) (by omega)
            rw [show sumU (fun x => bI (¬ h.1 2 x = 0)) (i + 1) = sumU (fun x => bI (¬ h.1 2 x = 0)) i + 1 from congrArg (sumU (fun x => bI (¬ h.1 2 x = 0)) i + ·) (bI_t b33), show sumU (fun x => bI (¬ h.1 3 x = 0)) (i + 1) = sumU (fun x => bI (¬ h.1 3 x = 0)) i + 1 from congrArg (sumU (fun x => bI (¬ h.1 3 x = 0)) i + ·) (bI_t b51), show sumU (fun x => bI (h.1 0 12 < h.1 4 x)) (i + 1) = sumU (fun x => bI (h.1 0 12 < h.1 4 x)) i + 0 from congrArg (sumU (fun x => bI (h.1 0 12 < h.1 4 x)) i + ·) (b69)] at z
            exact z
          · refine aw_iconst (v := 1) K dX7_count_72 (by decide) ?_
            refine aw_goto (tgt := 77) K dX7_count_73 (by decide) ?_
            refine aw_iadd K dX7_count_77 ?_
            refine aw_is4 K dX7_count_78 (by decide) rfl ?_
            refine aw_ii7 (v := _ + 1) K dX7_count_80 rfl (by decide) rfl ?_
            refine aw_goto (tgt := 16) K dX7_count_83 (by decide) ?_
            rw [nI_1]
            have z := ih (i + 1) (by omega)
            rw [show sumU (fun x => bI (¬ h.1 2 x = 0)) (i + 1) = sumU (fun x => bI (¬ h.1 2 x = 0)) i + 1 from congrArg (sumU (fun x => bI (¬ h.1 2 x = 0)) i + ·) (bI_t b33), show sumU (fun x => bI (¬ h.1 3 x = 0)) (i + 1) = sumU (fun x => bI (¬ h.1 3 x = 0)) i + 1 from congrArg (sumU (fun x => bI (¬ h.1 3 x = 0)) i + ·) (bI_t b51), show sumU (fun x => bI (h.1 0 12 < h.1 4 x)) (i + 1) = sumU (fun x => bI (h.1 0 12 < h.1 4 x)) i + 1 from congrArg (sumU (fun x => bI (h.1 0 12 < h.1 4 x)) i + ·) (bI_t (bI_1.mp b69))] at z
            exact z
set_option maxHeartbeats 4000000 in
set_option maxRecDepth 100000 in
theorem tX7_count (l : Launch) (g : Geo) (sta : Nat → Nat) (h : HS) (a : Int32) {N T Wn : Nat} (H : MW h N T Wn) : CT (wM l g sta) 7 mX7_count [.ref (g.2.1 0), .int a] h (DI (cnV h.1 a N T Wn) h) := by
  refine CT.at [some (.ref (g.2.1 0)), some (.int a), none, none, none, none, none, none] 6 rfl (by decide) (Nat.le_of_ble_eq_true rfl) (fun k K => ?_)
  refine aw_iconst (v := 0) K dX7_count_0 (by decide) ?_
  refine aw_is2 K dX7_count_1 (by decide) rfl ?_
  refine aw_iconst (v := 0) K dX7_count_2 (by decide) ?_
  refine aw_is3 K dX7_count_3 (by decide) rfl ?_
  refine aw_iconst (v := 0) K dX7_count_4 (by decide) ?_
  refine aw_is4 K dX7_count_5 (by decide) rfl ?_
  refine aw_iconst (v := 0) K dX7_count_7 (by decide) ?_
  refine aw_is5 K dX7_count_8 (by decide) rfl ?_
  refine aw_iconst (v := 0) K dX7_count_10 (by decide) ?_
  refine aw_is6 K dX7_count_11 (by decide) rfl ?_
  refine aw_iconst (v := 0) K dX7_count_13 (by decide) ?_
  refine aw_is7 K dX7_count_14 (by decide) rfl ?_
  exact lp1X7_count K h a H N 0 (by omega)

