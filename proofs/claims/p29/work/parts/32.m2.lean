def prf (f r : Nat → Int32) (n : Nat) : Nat → Int32 := fun j => if j < n then r j else f j
theorem prf_0 (f r : Nat → Int32) : prf f r 0 = f := by funext j; simp [prf]
theorem prf_s {f r : Nat → Int32} {i : Nat} {v : Int32} (hv : v = r i) : upd (prf f r i) i v = prf f r (i + 1) := by
  funext j
  by_cases h1 : j = i
  · subst h1; simp [upd, prf, hv]
  · by_cases h2 : j < i
    · simp [upd, prf, h1, h2, show j < i + 1 by omega]
    · simp [upd, prf, h1, h2, show ¬ j < i + 1 by omega]
theorem setR_comm {h : HS} {a b : Nat} {f f' : Nat → Int32} (hab : a ≠ b) : setR (setR h a f) b f' = setR (setR h b f') a f := by
  simp only [setR]
  congr 1
  funext x
  by_cases ha : x = a
  · subst ha; simp [hab]
  · by_cases hb : x = b
    · subst hb; simp [ha]
    · simp [ha, hb]
theorem setI_comm {h : HS} {a b j : Nat} {f : Nat → Int32} {v : Int32} (hab : a ≠ b) : setI (setR h a f) b j v = setR (setI h b j v) a f := by
  unfold setI
  rw [setR_comm hab]
  simp [rdR, Ne.symm hab]
def FR (h : HS) (i : Nat) : HS := setR (setR h 13 (fil (h.1 13) i 0)) 12 (prf (h.1 12) aw_r0 i)
theorem FR_0 (h : HS) : FR h 0 = h := by
  unfold FR
  rw [fil_0, prf_0, setR_id, setR_id]
theorem FR_s (h : HS) (i : Nat) (v : Int32) (hv : v = aw_r0 i) : setI (setI (FR h i) 13 i (vp_nar .boolean 0)) 12 i v = FR h (i + 1) := by
  have e : vp_nar .boolean 0 = 0 := rfl
  rw [e]
  unfold FR
  rw [setI_comm (by decide), setI_setR, setI_setR, fil_s, prf_s hv]
set_option maxHeartbeats 4000000 in
set_option maxRecDepth 100000 in
theorem ul_firstRules {l : Launch} {g : Geo} {sta : Nat → Nat} {P : Option Value → HS → Prop} {d : Nat} {k : KT} (K : AOK (wM l g sta) mX7_firstRules k) (h : HS) (hP : P none (FR h 10)) :
    ∀ n i : Nat, i ≤ 10 → 10 - i < n → AW (wM l g sta) P d mX7_firstRules k 2 [some (.ref (g.2.1 0)), some (.int (nI i))] [] (FR h i) := by
  intro n
  induction n with
  | zero => intro i h1 h2; omega
  | succ n ih =>
    intro i h1 h2
    refine aw_il1 K dX7_firstRules_2 ?_
    refine aw_bipush (v := 10) K dX7_firstRules_3 (by decide) ?_
    refine aw_icmp_ge (tgt := 100) K dX7_firstRules_5 (by decide) (fun b5 => ?_) (fun b5 => ?_)
    · obtain rfl : i = 10 := by
        have := (nI_leI (a := 10) (by decide) (by omega : i < 2 ^ 31)).mp b5
        omega
      refine aw_vret K rfl dX7_firstRules_100 ?_
      exact hP
    · have hlt : i < 10 := by
        rcases Nat.lt_or_ge i 10 with q | q
        · exact q
        · exact absurd (nI_le (a := 10) q (by omega)) b5
      refine aw_al0 K dX7_firstRules_8 ?_
      refine aw_getR K gX7_47 dX7_firstRules_9 rfl rfl ?_
      refine aw_il1 K dX7_firstRules_12 ?_
      refine aw_iconst (v := 0) K dX7_firstRules_13 (by decide) ?_
      refine aw_zast K dX7_firstRules_14 rfl (vp_in_nI hlt (by decide)) ?_
      refine aw_al0 K dX7_firstRules_15 ?_
      refine aw_getR K gX7_44 dX7_firstRules_16 rfl rfl ?_
      refine aw_il1 K dX7_firstRules_19 ?_
      refine aw_il1 K dX7_firstRules_20 ?_
      refine aw_if_eq (tgt := 36) K dX7_firstRules_21 (by decide) (fun b21 => ?_) (fun b21 => ?_)
      · refine aw_bipush (v := 100) K dX7_firstRules_36 (by decide) ?_
        refine aw_goto (tgt := 93) K dX7_firstRules_38 (by decide) ?_
        refine aw_iast K dX7_firstRules_93 rfl (vp_in_nI hlt (by decide)) ?_
        refine aw_ii1 (v := _ + 1) K dX7_firstRules_94 rfl (by decide) rfl ?_
        refine aw_goto (tgt := 2) K dX7_firstRules_97 (by decide) ?_
        rw [nI_1, nI_clamp (by omega), FR_s]
        · exact ih (i + 1) (by omega) (by omega)
        · rcases (show i = 0 ∨ i = 1 ∨ i = 2 ∨ i = 3 ∨ i = 4 ∨ i = 5 ∨ i = 6 ∨ i = 7 ∨ i = 8 ∨ i = 9 by omega) with rfl | rfl | rfl | rfl | rfl | rfl | rfl | rfl | rfl | rfl <;> first | rfl | exact absurd b21 (by decide) | exact absurd b27 (by decide) | exact absurd b33 (by decide) | exact absurd b43 (by decide) | exact absurd b53 (by decide) | exact absurd b63 (by decide) | exact absurd b72 (by decide) | exact absurd b83 (by decide) | exact absurd (by decide) b21 | exact absurd (by decide) b27 | exact absurd (by decide) b33 | exact absurd (by decide) b43 | exact absurd (by decide) b53 | exact absurd (by decide) b63 | exact absurd (by decide) b72 | exact absurd (by decide) b83
      · refine aw_il1 K dX7_firstRules_24 ?_
        refine aw_bipush (v := 6) K dX7_firstRules_25 (by decide) ?_
        refine aw_icmp_eq (tgt := 36) K dX7_firstRules_27 (by decide) (fun b27 => ?_) (fun b27 => ?_)
        · refine aw_bipush (v := 100) K dX7_firstRules_36 (by decide) ?_
          refine aw_goto (tgt := 93) K dX7_firstRules_38 (by decide) ?_
          refine aw_iast K dX7_firstRules_93 rfl (vp_in_nI hlt (by decide)) ?_
          refine aw_ii1 (v := _ + 1) K dX7_firstRules_94 rfl (by decide) rfl ?_
          refine aw_goto (tgt := 2) K dX7_firstRules_97 (by decide) ?_
          rw [nI_1, nI_clamp (by omega), FR_s]
          · exact ih (i + 1) (by omega) (by omega)
          · rcases (show i = 0 ∨ i = 1 ∨ i = 2 ∨ i = 3 ∨ i = 4 ∨ i = 5 ∨ i = 6 ∨ i = 7 ∨ i = 8 ∨ i = 9 by omega) with rfl | rfl | rfl | rfl | rfl | rfl | rfl | rfl | rfl | rfl <;> first | rfl | exact absurd b21 (by decide) | exact absurd b27 (by decide) | exact absurd b33 (by decide) | exact absurd b43 (by decide) | exact absurd b53 (by decide) | exact absurd b63 (by decide) | exact absurd b72 (by decide) | exact absurd b83 (by decide) | exact absurd (by decide) b21 | exact absurd (by decide) b27 | exact absurd (by decide) b33 | exact absurd (by decide) b43 | exact absurd (by decide) b53 | exact absurd (by decide) b63 | exact absurd (by decide) b72 | exact absurd (by decide) b83
        · refine aw_il1 K dX7_firstRules_30 ?_
          refine aw_bipush (v := 8) K dX7_firstRules_31 (by decide) ?_
          refine aw_icmp_ne (tgt := 41) K dX7_firstRules_33 (by decide) (fun b33 => ?_) (fun b33 => ?_)
          · refine aw_il1 K dX7_firstRules_41 ?_
            refine aw_iconst (v := 1) K dX7_firstRules_42 (by decide) ?_
            refine aw_icmp_ne (tgt := 51) K dX7_firstRules_43 (by decide) (fun b43 => ?_) (fun b43 => ?_)
            · refine aw_il1 K dX7_firstRules_51 ?_
              refine aw_iconst (v := 2) K dX7_firstRules_52 (by decide) ?_
              refine aw_icmp_ne (tgt := 61) K dX7_firstRules_53 (by decide) (fun b53 => ?_) (fun b53 => ?_)
              · refine aw_il1 K dX7_firstRules_61 ?_
                refine aw_iconst (v := 3) K dX7_firstRules_62 (by decide) ?_
                refine aw_icmp_ne (tgt := 70) K dX7_firstRules_63 (by decide) (fun b63 => ?_) (fun b63 => ?_)
                · refine aw_il1 K dX7_firstRules_70 ?_
                  refine aw_iconst (v := 5) K dX7_firstRules_71 (by decide) ?_
                  refine aw_icmp_ne (tgt := 80) K dX7_firstRules_72 (by decide) (fun b72 => ?_) (fun b72 => ?_)
                  · refine aw_il1 K dX7_firstRules_80 ?_
                    refine aw_bipush (v := 9) K dX7_firstRules_81 (by decide) ?_
                    refine aw_icmp_ne (tgt := 91) K dX7_firstRules_83 (by decide) (fun b83 => ?_) (fun b83 => ?_)
                    · refine aw_bipush (v := 10) K dX7_firstRules_91 (by decide) ?_
                      refine aw_iast K dX7_firstRules_93 rfl (vp_in_nI hlt (by decide)) ?_
                      refine aw_ii1 (v := _ + 1) K dX7_firstRules_94 rfl (by decide) rfl ?_
                      refine aw_goto (tgt := 2) K dX7_firstRules_97 (by decide) ?_
                      rw [nI_1, nI_clamp (by omega), FR_s]
                      · exact ih (i + 1) (by omega) (by omega)
                      · rcases (show i = 0 ∨ i = 1 ∨ i = 2 ∨ i = 3 ∨ i = 4 ∨ i = 5 ∨ i = 6 ∨ i = 7 ∨ i = 8 ∨ i = 9 by omega) with rfl | rfl | rfl | rfl | rfl | rfl | rfl | rfl | rfl | rfl <;> first | rfl | exact absurd b21 (by decide) | exact absurd b27 (by decide) | exact absurd b33 (by decide) | exact absurd b43 (by decide) | exact absurd b53 (by decide) | exact absurd b63 (by decide) | exact absurd b72 (by decide) | exact absurd b83 (by decide) | exact absurd (by decide) b21 | exact absurd (by decide) b27 | exact absurd (by decide) b33 | exact absurd (by decide) b43 | exact absurd (by decide) b53 | exact absurd (by decide) b63 | exact absurd (by decide) b72 | exact absurd (by decide) b83
                    · refine aw_bipush (v := 8) K dX7_firstRules_86 (by decide) ?_
                      refine aw_goto (tgt := 93) K dX7_firstRules_88 (by decide) ?_
                      refine aw_iast K dX7_firstRules_93 rfl (vp_in_nI hlt (by decide)) ?_
                      refine aw_ii1 (v := _ + 1) K dX7_firstRules_94 rfl (by decide) rfl ?_
                      refine aw_goto (tgt := 2) K dX7_firstRules_97 (by decide) ?_
                      rw [nI_1, nI_clamp (by omega), FR_s]
                      · exact ih (i + 1) (by omega) (by omega)
                      · rcases (show i = 0 ∨ i = 1 ∨ i = 2 ∨ i = 3 ∨ i = 4 ∨ i = 5 ∨ i = 6 ∨ i = 7 ∨ i = 8 ∨ i = 9 by omega) with rfl | rfl | rfl | rfl | rfl | rfl | rfl | rfl | rfl | rfl <;> first | rfl | exact absurd b21 (by decide) | exact absurd b27 (by decide) | exact absurd b33 (by decide) | exact absurd b43 (by decide) | exact absurd b53 (by decide) | exact absurd b63 (by decide) | exact absurd b72 (by decide) | exact absurd b83 (by decide) | exact absurd (by decide) b21 | exact absurd (by decide) b27 | exact absurd (by decide) b33 | exact absurd (by decide) b43 | exact absurd (by decide) b53 | exact absurd (by decide) b63 | exact absurd (by decide) b72 | exact absurd (by decide) b83
                  · refine aw_bipush (v := 20) K dX7_firstRules_75 (by decide) ?_
                    refine aw_goto (tgt := 93) K dX7_firstRules_77 (by decide) ?_
                    refine aw_iast K dX7_firstRules_93 rfl (vp_in_nI hlt (by decide)) ?_
                    refine aw_ii1 (v := _ + 1) K dX7_firstRules_94 rfl (by decide) rfl ?_
                    refine aw_goto (tgt := 2) K dX7_firstRules_97 (by decide) ?_
                    rw [nI_1, nI_clamp (by omega), FR_s]
                    · exact ih (i + 1) (by omega) (by omega)
                    · rcases (show i = 0 ∨ i = 1 ∨ i = 2 ∨ i = 3 ∨ i = 4 ∨ i = 5 ∨ i = 6 ∨ i = 7 ∨ i = 8 ∨ i = 9 by omega) with rfl | rfl | rfl | rfl | rfl | rfl | rfl | rfl | rfl | rfl <;> first | rfl | exact absurd b21 (by decide) | exact absurd b27 (by decide) | exact absurd b33 (by decide) | exact absurd b43 (by decide) | exact absurd b53 (by decide) | exact absurd b63 (by decide) | exact absurd b72 (by decide) | exact absurd b83 (by decide) | exact absurd (by decide) b21 | exact absurd (by decide) b27 | exact absurd (by decide) b33 | exact absurd (by decide) b43 | exact absurd (by decide) b53 | exact absurd (by decide) b63 | exact absurd (by decide) b72 | exact absurd (by decide) b83
                · refine aw_iconst (v := 0) K dX7_firstRules_66 (by decide) ?_
                  refine aw_goto (tgt := 93) K dX7_firstRules_67 (by decide) ?_
                  refine aw_iast K dX7_firstRules_93 rfl (vp_in_nI hlt (by decide)) ?_
                  refine aw_ii1 (v := _ + 1) K dX7_firstRules_94 rfl (by decide) rfl ?_
                  refine aw_goto (tgt := 2) K dX7_firstRules_97 (by decide) ?_
                  rw [nI_1, nI_clamp (by omega), FR_s]
                  · exact ih (i + 1) (by omega) (by omega)
                  · rcases (show i = 0 ∨ i = 1 ∨ i = 2 ∨ i = 3 ∨ i = 4 ∨ i = 5 ∨ i = 6 ∨ i = 7 ∨ i = 8 ∨ i = 9 by omega) with rfl | rfl | rfl | rfl | rfl | rfl | rfl | rfl | rfl | rfl <;> first | rfl | exact absurd b21 (by decide) | exact absurd b27 (by decide) | exact absurd b33 (by decide) | exact absurd b43 (by decide) | exact absurd b53 (by decide) | exact absurd b63 (by decide) | exact absurd b72 (by decide) | exact absurd b83 (by decide) | exact absurd (by decide) b21 | exact absurd (by decide) b27 | exact absurd (by decide) b33 | exact absurd (by decide) b43 | exact absurd (by decide) b53 | exact absurd (by decide) b63 | exact absurd (by decide) b72 | exact absurd (by decide) b83
              · refine aw_bipush (v := 50) K dX7_firstRules_56 (by decide) ?_
                refine aw_goto (tgt := 93) K dX7_firstRules_58 (by decide) ?_
                refine aw_iast K dX7_firstRules_93 rfl (vp_in_nI hlt (by decide)) ?_
                refine aw_ii1 (v := _ + 1) K dX7_firstRules_94 rfl (by decide) rfl ?_
                refine aw_goto (tgt := 2) K dX7_firstRules_97 (by decide) ?_
                rw [nI_1, nI_clamp (by omega), FR_s]
                · exact ih (i + 1) (by omega) (by omega)
                · rcases (show i = 0 ∨ i = 1 ∨ i = 2 ∨ i = 3 ∨ i = 4 ∨ i = 5 ∨ i = 6 ∨ i = 7 ∨ i = 8 ∨ i = 9 by omega) with rfl | rfl | rfl | rfl | rfl | rfl | rfl | rfl | rfl | rfl <;> first | rfl | exact absurd b21 (by decide) | exact absurd b27 (by decide) | exact absurd b33 (by decide) | exact absurd b43 (by decide) | exact absurd b53 (by decide) | exact absurd b63 (by decide) | exact absurd b72 (by decide) | exact absurd b83 (by decide) | exact absurd (by decide) b21 | exact absurd (by decide) b27 | exact absurd (by decide) b33 | exact absurd (by decide) b43 | exact absurd (by decide) b53 | exact absurd (by decide) b63 | exact absurd (by decide) b72 | exact absurd (by decide) b83
            · refine aw_bipush (v := 80) K dX7_firstRules_46 (by decide) ?_
              refine aw_goto (tgt := 93) K dX7_firstRules_48 (by decide) ?_
              refine aw_iast K dX7_firstRules_93 rfl (vp_in_nI hlt (by decide)) ?_
              refine aw_ii1 (v := _ + 1) K dX7_firstRules_94 rfl (by decide) rfl ?_
              refine aw_goto (tgt := 2) K dX7_firstRules_97 (by decide) ?_
              rw [nI_1, nI_clamp (by omega), FR_s]
              · exact ih (i + 1) (by omega) (by omega)
              · rcases (show i = 0 ∨ i = 1 ∨ i = 2 ∨ i = 3 ∨ i = 4 ∨ i = 5 ∨ i = 6 ∨ i = 7 ∨ i = 8 ∨ i = 9 by omega) with rfl | rfl | rfl | rfl | rfl | rfl | rfl | rfl | rfl | rfl <;> first | rfl | exact absurd b21 (by decide) | exact absurd b27 (by decide) | exact absurd b33 (by decide) | exact absurd b43 (by decide) | exact absurd b53 (by decide) | exact absurd b63 (by decide) | exact absurd b72 (by decide) | exact absurd b83 (by decide) | exact absurd (by decide) b21 | exact absurd (by decide) b27 | exact absurd (by decide) b33 | exact absurd (by decide) b43 | exact absurd (by decide) b53 | exact absurd (by decide) b63 | exact absurd (by decide) b72 | exact absurd (by decide) b83
          · refine aw_bipush (v := 100) K dX7_firstRules_36 (by decide) ?_
            refine aw_goto (tgt := 93) K dX7_firstRules_38 (by decide) ?_
            refine aw_iast K dX7_firstRules_93 rfl (vp_in_nI hlt (by decide)) ?_
            refine aw_ii1 (v := _ + 1) K dX7_firstRules_94 rfl (by decide) rfl ?_
            refine aw_goto (tgt := 2) K dX7_firstRules_97 (by decide) ?_
            rw [nI_1, nI_clamp (by omega), FR_s]
            · exact ih (i + 1) (by omega) (by omega)
            · rcases (show i = 0 ∨ i = 1 ∨ i = 2 ∨ i = 3 ∨ i = 4 ∨ i = 5 ∨ i = 6 ∨ i = 7 ∨ i = 8 ∨ i = 9 by omega) with rfl | rfl | rfl | rfl | rfl | rfl | rfl | rfl | rfl | rfl <;> first | rfl | exact absurd b21 (by decide) | exact absurd b27 (by decide) | exact absurd b33 (by decide) | exact absurd b43 (by decide) | exact absurd b53 (by decide) | exact absurd b63 (by decide) | exact absurd b72 (by decide) | exact absurd b83 (by decide) | exact absurd (by decide) b21 | exact absurd (by decide) b27 | exact absurd (by decide) b33 | exact absurd (by decide) b43 | exact absurd (by decide) b53 | exact absurd (by decide) b63 | exact absurd (by decide) b72 | exact absurd (by decide) b83
set_option maxHeartbeats 4000000 in
set_option maxRecDepth 100000 in
theorem tX7_firstRules (l : Launch) (g : Geo) (sta : Nat → Nat) (h : HS) : CT (wM l g sta) 1 mX7_firstRules [.ref (g.2.1 0)] h (DV (FR h 10)) := by
  refine CT.at [some (.ref (g.2.1 0)), none] 1 rfl (by decide) (Nat.le_of_ble_eq_true rfl) (fun k K => ?_)
  refine aw_iconst (v := 0) K dX7_firstRules_0 (by decide) ?_
  refine aw_is1 K dX7_firstRules_1 (by decide) rfl ?_
  have := ul_firstRules (P := DV (FR h 10)) (d := 1) K h ⟨rfl, rfl⟩ 11 0 (by omega) (by omega)
  rw [FR_0] at this
  exact this
def KR (h : HS) (i : Nat) : HS := setR h 11 (prf (h.1 11) (h.1 12) i)
set_option maxHeartbeats 4000000 in
set_option maxRecDepth 100000 in
theorem ul_keepRules {l : Launch} {g : Geo} {sta : Nat → Nat} {P : Option Value → HS → Prop} {d : Nat} {k : KT} (K : AOK (wM l g sta) mX7_keepRules k) (h : HS) (hP : P none (KR h 10)) :
    ∀ n i : Nat, i ≤ 10 → 10 - i < n → AW (wM l g sta) P d mX7_keepRules k 2 [some (.ref (g.2.1 0)), some (.int (nI i))] [] (KR h i) := by
  intro n
  induction n with
  | zero => intro i h1 h2; omega
  | succ n ih =>
    intro i h1 h2
    refine aw_il1 K dX7_keepRules_2 ?_
    refine aw_bipush (v := 10) K dX7_keepRules_3 (by decide) ?_
    refine aw_icmp_ge (tgt := 26) K dX7_keepRules_5 (by decide) (fun b5 => ?_) (fun b5 => ?_)
    · obtain rfl : i = 10 := by
        have := (nI_leI (a := 10) (by decide) (by omega : i < 2 ^ 31)).mp b5
        omega
      refine aw_vret K rfl dX7_keepRules_26 ?_
      exact hP
    · have hlt : i < 10 := by
        rcases Nat.lt_or_ge i 10 with q | q
        · exact q
        · exact absurd (nI_le (a := 10) q (by omega)) b5
      refine aw_al0 K dX7_keepRules_8 ?_
      refine aw_getR K gX7_41 dX7_keepRules_9 rfl rfl ?_
      refine aw_il1 K dX7_keepRules_12 ?_
      refine aw_al0 K dX7_keepRules_13 ?_
      refine aw_getR K gX7_44 dX7_keepRules_14 rfl rfl ?_
      refine aw_il1 K dX7_keepRules_17 ?_
      refine aw_iald K dX7_keepRules_18 rfl (vp_in_nI hlt (by decide)) ?_
      refine aw_iast K dX7_keepRules_19 rfl (vp_in_nI hlt (by decide)) ?_
      refine aw_ii1 (v := _ + 1) K dX7_keepRules_20 rfl (by decide) rfl ?_
      refine aw_goto (tgt := 2) K dX7_keepRules_23 (by decide) ?_
      rw [nI_1, nI_clamp (by omega)]
      have e : setI (KR h i) 11 i ((KR h i).1 12 i) = KR h (i + 1) := by
        unfold KR
        rw [setI_setR]
        exact congrArg (setR h 11) (prf_s rfl)
      rw [e]
      exact ih (i + 1) (by omega) (by omega)
set_option maxHeartbeats 4000000 in
set_option maxRecDepth 100000 in
theorem tX7_keepRules (l : Launch) (g : Geo) (sta : Nat → Nat) (h : HS) : CT (wM l g sta) 1 mX7_keepRules [.ref (g.2.1 0)] h (DV (KR h 10)) := by
  refine CT.at [some (.ref (g.2.1 0)), none] 1 rfl (by decide) (Nat.le_of_ble_eq_true rfl) (fun k K => ?_)
  refine aw_iconst (v := 0) K dX7_keepRules_0 (by decide) ?_
  refine aw_is1 K dX7_keepRules_1 (by decide) rfl ?_
  have := ul_keepRules (P := DV (KR h 10)) (d := 1) K h ⟨rfl, rfl⟩ 11 0 (by omega) (by omega)
  rw [show KR h 0 = h by unfold KR; rw [prf_0, setR_id]] at this
  exact this
/-! the reference's tape -/
def lkV (f : Nat → Int32) (L p : Nat) : Int32 := if p < L then f p else -1
/-- a tape: its bytes f, its length L -/
def MT (h : HS) (f : Nat → Int32) (L : Nat) : Prop := h.1 14 = f ∧ h.1 0 17 = nI L ∧ L ≤ 200
def MFr (h h' : HS) : Prop := (∀ c, c ≠ 0 → h'.1 c = h.1 c) ∧ ∀ j, j < 18 ∨ 23 < j → h'.1 0 j = h.1 0 j
theorem MFr.rf {h : HS} : MFr h h := ⟨fun _ _ => rfl, fun _ _ => rfl⟩
theorem MFr.tr {h h1 h2 : HS} (a : MFr h h1) (b : MFr h1 h2) : MFr h h2 := ⟨fun c hc => (b.1 c hc).trans (a.1 c hc), fun j hj => (b.2 j hj).trans (a.2 j hj)⟩
theorem MFr.pt {h h1 : HS} {j : Nat} {v : Int32} (a : MFr h h1) (hj : (Nat.ble 18 j && Nat.ble j 23) = true) : MFr h (setI h1 0 j v) := by
  simp only [Bool.and_eq_true] at hj
  have j1 := Nat.le_of_ble_eq_true hj.1
  have j2 := Nat.le_of_ble_eq_true hj.2
  refine ⟨fun c hc => ?_, fun i hi => ?_⟩
  · rw [setI_w hc]
    exact a.1 c hc
  · rw [rdI, if_neg (fun q => by omega)]
    exact a.2 i hi
theorem MT.fr {h h' : HS} {f : Nat → Int32} {L : Nat} (m : MT h f L) (a : MFr h h') : MT h' f L := ⟨(a.1 14 (by decide)).trans m.1, (a.2 17 (by decide)).trans m.2.1, m.2.2⟩
set_option maxHeartbeats 4000000 in
set_option maxRecDepth 100000 in
theorem tX7_look (l : Launch) (g : Geo) (sta : Nat → Nat) (h : HS) (f : Nat → Int32) (L p : Nat) (m : MT h f L) (hp : p ≤ 300) : CT (wM l g sta) 1 mX7_look [.ref (g.2.1 0), .int (nI p)] h (DI (lkV f L p) h) := by
  refine CT.at [some (.ref (g.2.1 0)), some (.int (nI p))] 0 rfl (by decide) (Nat.le_of_ble_eq_true rfl) (fun k K => ?_)
  refine aw_il1 K dX7_look_0 ?_
  refine aw_al0 K dX7_look_1 ?_
  refine aw_getI K gX7_149 dX7_look_2 rfl rfl ?_
  have m3 := m.2.2
  rw [m.2.1]
  refine aw_icmp_ge (tgt := 17) K dX7_look_5 (by decide) (fun b5 => ?_) (fun b5 => ?_)
  · have hx : ¬ p < L := Nat.not_lt.mpr ((nI_leI (by omega) (by omega)).mp b5)
    refine aw_iconst (v := (-1)) K dX7_look_17 (by decide) ?_
    refine aw_iret K rfl dX7_look_18 ?_
    exact ⟨congrArg some (congrArg Value.int (if_neg hx).symm), rfl⟩
  · have hx : p < L := by
      rcases Nat.lt_or_ge p L with q | q
      · exact q
      · exact absurd (nI_le q (by omega)) b5
    refine aw_al0 K dX7_look_8 ?_
    refine aw_getR K gX7_50 dX7_look_9 rfl rfl ?_
    refine aw_il1 K dX7_look_12 ?_
    refine aw_iald K dX7_look_13 rfl (vp_in_nI (by omega) (by decide)) ?_
    rw [nI_clamp (show p < 2 ^ 31 by omega), m.1]
    refine aw_goto (tgt := 18) K dX7_look_14 (by decide) ?_
    refine aw_iret K rfl dX7_look_18 ?_
    exact ⟨congrArg some (congrArg Value.int (if_pos hx).symm), rfl⟩

def wntF (h : HS) (a c : Int32) : HS := if a = 0 ∧ h.1 0 22 = 0 then setI (setI h 0 22 c) 0 23 (h.1 0 19) else h
set_option maxHeartbeats 4000000 in
set_option maxRecDepth 100000 in
theorem tX7_wants (l : Launch) (g : Geo) (sta : Nat → Nat) (h : HS) (a c : Int32) : CT (wM l g sta) 1 mX7_wants [.ref (g.2.1 0), .int a, .int c] h (DV (wntF h a c)) := by
  refine CT.at [some (.ref (g.2.1 0)), some (.int a), some (.int c)] 0 rfl (by decide) (Nat.le_of_ble_eq_true rfl) (fun k K => ?_)
  refine aw_il1 K dX7_wants_0 ?_
  refine aw_if_ne (tgt := 24) K dX7_wants_1 (by decide) (fun b1 => ?_) (fun b1 => ?_)
  · refine aw_vret K rfl dX7_wants_24 ?_
    exact ⟨rfl, by rw [wntF, if_neg (fun q => b1 q.1)]⟩
  · refine aw_al0 K dX7_wants_4 ?_
    refine aw_getI K gX7_154 dX7_wants_5 rfl rfl ?_
    refine aw_if_ne (tgt := 24) K dX7_wants_8 (by decide) (fun b8 => ?_) (fun b8 => ?_)
    · refine aw_vret K rfl dX7_wants_24 ?_
      exact ⟨rfl, by rw [wntF, if_neg (fun q => b8 q.2)]⟩
    · refine aw_al0 K dX7_wants_11 ?_
      refine aw_il2 K dX7_wants_12 ?_
      refine aw_putI K gX7_154 fpX7_22 dX7_wants_13 rfl rfl ?_
      refine aw_al0 K dX7_wants_16 ?_
      refine aw_al0 K dX7_wants_17 ?_
      refine aw_getI K gX7_157 dX7_wants_18 rfl rfl ?_
      refine aw_putI K gX7_160 fpX7_23 dX7_wants_21 rfl rfl ?_
      refine aw_vret K rfl dX7_wants_24 ?_
      exact ⟨rfl, by rw [wntF, if_pos ⟨b1, b8⟩]; rfl⟩

theorem wnt_y (l : Launch) (g : Geo) (sta : Nat → Nat) (h : HS) (a c : Int32) (ha : ¬ a = 0) : CT (wM l g sta) 1 mX7_wants [.ref (g.2.1 0), .int a, .int c] h (DV h) := by
  have := tX7_wants l g sta h a c
  rw [wntF, if_neg (fun q => ha q.1)] at this
  exact this
theorem wnt_n (l : Launch) (g : Geo) (sta : Nat → Nat) (h : HS) (c : Int32) (hf : h.1 0 22 = 0) : CT (wM l g sta) 1 mX7_wants [.ref (g.2.1 0), .int 0, .int c] h (DV (setI (setI h 0 22 c) 0 23 (h.1 0 19))) := by
  have := tX7_wants l g sta h 0 c
  rw [wntF, if_pos ⟨rfl, hf⟩] at this
  exact this
set_option maxHeartbeats 4000000 in
set_option maxRecDepth 100000 in
theorem tX7_is (l : Launch) (g : Geo) (sta : Nat → Nat) (h : HS) (f : Nat → Int32) (L s e : Nat) (m : MT h f L) (SE : h.1 0 19 = nI s ∧ h.1 0 18 = nI e ∧ s ≤ 200) (n a b c q : Int32) : CT (wM l g sta) 2 mX7_is [.ref (g.2.1 0), .int n, .int a, .int b, .int c, .int q] h (DI (bI (nI e - nI s = n ∧ lkV f L s = a ∧ lkV f L (s + 1) = b ∧ lkV f L (s + 2) = c ∧ (n < 4 ∨ lkV f L (s + 3) = q))) h) := by
  refine CT.at [some (.ref (g.2.1 0)), some (.int n), some (.int a), some (.int b), some (.int c), some (.int q)] 0 rfl (by decide) (Nat.le_of_ble_eq_true rfl) (fun k K => ?_)
  have s3 := SE.2.2
  refine aw_al0 K dX7_is_0 ?_
  refine aw_getI K gX7_163 dX7_is_1 rfl rfl ?_
  refine aw_al0 K dX7_is_4 ?_
  refine aw_getI K gX7_157 dX7_is_5 rfl rfl ?_
  rw [SE.1, SE.2.1]
  refine aw_isub K dX7_is_8 ?_
  refine aw_il1 K dX7_is_9 ?_
  refine aw_icmp_ne (tgt := 78) K dX7_is_10 (by decide) (fun b10 => ?_) (fun b10 => ?_)
  · refine aw_iconst (v := 0) K dX7_is_78 (by decide) ?_
    refine aw_zret K rfl dX7_is_79 (by first | rfl | exact bI_nar _) ?_
    exact ⟨congrArg some (congrArg Value.int (bI_f (fun z => b10 z.1)).symm), rfl⟩
  · refine aw_al0 K dX7_is_13 ?_
    refine aw_al0 K dX7_is_14 ?_
    refine aw_getI K gX7_157 dX7_is_15 rfl rfl ?_
    rw [SE.1]
    refine aw_callV_I K (tX7_look l g sta _ f L s m (by omega)) rfl (by decide) fX7_look lX7_166 dX7_is_18 rfl clsX7 rfl (Nat.le_of_ble_eq_true rfl) ?_
    refine aw_il2 K dX7_is_21 ?_
    refine aw_icmp_ne (tgt := 78) K dX7_is_22 (by decide) (fun b22 => ?_) (fun b22 => ?_)
    · refine aw_iconst (v := 0) K dX7_is_78 (by decide) ?_
      refine aw_zret K rfl dX7_is_79 (by first | rfl | exact bI_nar _) ?_
      exact ⟨congrArg some (congrArg Value.int (bI_f (fun z => b22 z.2.1)).symm), rfl⟩
    · refine aw_al0 K dX7_is_25 ?_
      refine aw_al0 K dX7_is_26 ?_
      refine aw_getI K gX7_157 dX7_is_27 rfl rfl ?_
      refine aw_iconst (v := 1) K dX7_is_30 (by decide) ?_
      refine aw_iadd K dX7_is_31 ?_
      rw [SE.1, show (1 : Int32) = nI 1 from rfl, nI_add]
      refine aw_callV_I K (tX7_look l g sta _ f L (s + 1) m (by omega)) rfl (by decide) fX7_look lX7_166 dX7_is_32 rfl clsX7 rfl (Nat.le_of_ble_eq_true rfl) ?_
      refine aw_il3 K dX7_is_35 ?_
      refine aw_icmp_ne (tgt := 78) K dX7_is_36 (by decide) (fun b36 => ?_) (fun b36 => ?_)
      · refine aw_iconst (v := 0) K dX7_is_78 (by decide) ?_
        refine aw_zret K rfl dX7_is_79 (by first | rfl | exact bI_nar _) ?_
        exact ⟨congrArg some (congrArg Value.int (bI_f (fun z => b36 z.2.2.1)).symm), rfl⟩
      · refine aw_al0 K dX7_is_39 ?_
        refine aw_al0 K dX7_is_40 ?_
        refine aw_getI K gX7_157 dX7_is_41 rfl rfl ?_
        refine aw_iconst (v := 2) K dX7_is_44 (by decide) ?_
        refine aw_iadd K dX7_is_45 ?_
        rw [SE.1, show (2 : Int32) = nI 2 from rfl, nI_add]
        refine aw_callV_I K (tX7_look l g sta _ f L (s + 2) m (by omega)) rfl (by decide) fX7_look lX7_166 dX7_is_46 rfl clsX7 rfl (Nat.le_of_ble_eq_true rfl) ?_
        refine aw_il4 K dX7_is_49 ?_
        refine aw_icmp_ne (tgt := 78) K dX7_is_51 (by decide) (fun b51 => ?_) (fun b51 => ?_)
        · refine aw_iconst (v := 0) K dX7_is_78 (by decide) ?_
          refine aw_zret K rfl dX7_is_79 (by first | rfl | exact bI_nar _) ?_
          exact ⟨congrArg some (congrArg Value.int (bI_f (fun z => b51 z.2.2.2.1)).symm), rfl⟩
        · refine aw_il1 K dX7_is_54 ?_
          refine aw_iconst (v := 4) K dX7_is_55 (by decide) ?_
          refine aw_icmp_lt (tgt := 74) K dX7_is_56 (by decide) (fun b56 => ?_) (fun b56 => ?_)
          · refine aw_iconst (v := 1) K dX7_is_74 (by decide) ?_
            refine aw_goto (tgt := 79) K dX7_is_75 (by decide) ?_
            refine aw_zret K rfl dX7_is_79 (by first | rfl | exact bI_nar _) ?_
            exact ⟨congrArg some (congrArg Value.int (bI_t ⟨b10, b22, b36, b51, Or.inl b56⟩).symm), rfl⟩
          · refine aw_al0 K dX7_is_59 ?_
            refine aw_al0 K dX7_is_60 ?_
            refine aw_getI K gX7_157 dX7_is_61 rfl rfl ?_
            refine aw_iconst (v := 3) K dX7_is_64 (by decide) ?_
            refine aw_iadd K dX7_is_65 ?_
            rw [SE.1, show (3 : Int32) = nI 3 from rfl, nI_add]
            refine aw_callV_I K (tX7_look l g sta _ f L (s + 3) m (by omega)) rfl (by decide) fX7_look lX7_166 dX7_is_66 rfl clsX7 rfl (Nat.le_of_ble_eq_true rfl) ?_
            refine aw_il5 K dX7_is_69 ?_
            refine aw_icmp_ne (tgt := 78) K dX7_is_71 (by decide) (fun b71 => ?_) (fun b71 => ?_)
            · refine aw_iconst (v := 0) K dX7_is_78 (by decide) ?_
              refine aw_zret K rfl dX7_is_79 (by first | rfl | exact bI_nar _) ?_
              exact ⟨congrArg some (congrArg Value.int (bI_f (fun z => z.2.2.2.2.elim b56 b71)).symm), rfl⟩
            · refine aw_iconst (v := 1) K dX7_is_74 (by decide) ?_
              refine aw_goto (tgt := 79) K dX7_is_75 (by decide) ?_
              refine aw_zret K rfl dX7_is_79 (by first | rfl | exact bI_nar _) ?_
              exact ⟨congrArg some (congrArg Value.int (bI_t ⟨b10, b22, b36, b51, Or.inr b71⟩).symm), rfl⟩

theorem txA_i {f : Nat → Int32} {s i : Nat} : ∀ n, txA f s i n = true ↔ ∀ j, j < n → aw_tc i j = f (s + j)
  | 0 => ⟨fun _ j hj => absurd hj (Nat.not_lt_zero _), fun _ => rfl⟩
  | n + 1 => by
    unfold txA
    by_cases q : aw_tc i n = f (s + n)
    · rw [if_pos q, txA_i n]
      constructor
      · intro z j hj
        rcases Nat.lt_or_ge j n with y | y
        · exact z j y
        · obtain rfl : j = n := by omega
          exact q
      · intro z j hj
        exact z j (by omega)
    · rw [if_neg q]
      constructor
      · intro z
        exact absurd z (by decide)
      · intro z
        exact absurd (z n (by omega)) q
theorem txQ_i {f : Nat → Int32} {s e i : Nat} : txQ f s e i = true ↔ aw_tl i = e - s ∧ ∀ j, j < aw_tl i → aw_tc i j = f (s + j) := by
  unfold txQ
  by_cases q : aw_tl i = e - s
  · rw [if_pos q, txA_i]
    exact ⟨fun z => ⟨q, z⟩, fun z => z.2⟩
  · rw [if_neg q]
    exact ⟨fun z => absurd z (by decide), fun z => absurd z.1 q⟩
theorem lk_in {f : Nat → Int32} {L p : Nat} (h : p < L) : lkV f L p = f p := if_pos h
theorem f4 {P : Nat → Prop} : (∀ j, j < 4 → P j) ↔ P 0 ∧ P 1 ∧ P 2 ∧ P 3 := ⟨fun h => ⟨h 0 (by decide), h 1 (by decide), h 2 (by decide), h 3 (by decide)⟩, fun h j hj => by
  match j, hj with
  | 0, _ => exact h.1
  | 1, _ => exact h.2.1
  | 2, _ => exact h.2.2.1
  | 3, _ => exact h.2.2.2⟩
theorem f6 {P : Nat → Prop} {n : Nat} (hn : 4 ≤ n) : (∀ j, j < n → P j) ↔ (∀ j, j < 4 → P j) ∧ ∀ j, 4 ≤ j ∧ j < n → P j := ⟨fun h => ⟨fun j hj => h j (by omega), fun j hj => h j hj.2⟩, fun h j hj => by
  rcases Nat.lt_or_ge j 4 with q | q
  · exact h.1 j q
  · exact h.2 j ⟨q, hj⟩⟩
/-- a text of four letters or more begins so -/
theorem is_4 {f : Nat → Int32} {L s e i k : Nat} (hk : 4 ≤ k) (hk2 : k ≤ 6) (hl : aw_tl i = k) (hse : s ≤ e) (he : e ≤ L) (hL : L ≤ 200) : (nI e - nI s = nI k ∧ lkV f L s = aw_tc i 0 ∧ lkV f L (s + 1) = aw_tc i 1 ∧ lkV f L (s + 2) = aw_tc i 2 ∧ (nI k < 4 ∨ lkV f L (s + 3) = aw_tc i 3)) ↔ (aw_tl i = e - s ∧ ∀ j, j < 4 → aw_tc i j = f (s + j)) := by
  rw [nI_sub hse, nI_eq (by omega) (by omega), hl, f4]
  constructor
  · rintro ⟨h1, h2, h3, h4, h5⟩
    rw [lk_in (by omega)] at h2 h3 h4
    rcases h5 with h5 | h5
    · exact absurd h5 (nI_nlt (b := 4) hk (by omega))
    · rw [lk_in (by omega)] at h5
      exact ⟨h1.symm, h2.symm, h3.symm, h4.symm, h5.symm⟩
  · rintro ⟨h1, h2, h3, h4, h5⟩
    rw [lk_in (by omega), lk_in (by omega), lk_in (by omega), lk_in (by omega)]
    exact ⟨h1.symm, h2.symm, h3.symm, h4.symm, Or.inr h5.symm⟩
theorem is_4q {f : Nat → Int32} {L s e i : Nat} (hl : aw_tl i = 4) (hse : s ≤ e) (he : e ≤ L) (hL : L ≤ 200) : (nI e - nI s = nI 4 ∧ lkV f L s = aw_tc i 0 ∧ lkV f L (s + 1) = aw_tc i 1 ∧ lkV f L (s + 2) = aw_tc i 2 ∧ (nI 4 < 4 ∨ lkV f L (s + 3) = aw_tc i 3)) ↔ txQ f s e i = true := by
  rw [is_4 (by decide) (by decide) hl hse he hL, txQ_i, hl]
theorem is_3q {f : Nat → Int32} {L s e : Nat} (hse : s ≤ e) (he : e ≤ L) (hL : L ≤ 200) : (nI e - nI s = nI 3 ∧ lkV f L s = aw_tc 0 0 ∧ lkV f L (s + 1) = aw_tc 0 1 ∧ lkV f L (s + 2) = aw_tc 0 2 ∧ (nI 3 < 4 ∨ lkV f L (s + 3) = 0)) ↔ txQ f s e 0 = true := by
  rw [nI_sub hse, nI_eq (by omega) (by omega), txQ_i, show aw_tl 0 = 3 from rfl]
  constructor
  · rintro ⟨h1, h2, h3, h4, -⟩
    rw [lk_in (by omega)] at h2 h3 h4
    refine ⟨h1.symm, fun j hj => ?_⟩
    match j, hj with
    | 0, _ => exact h2.symm
    | 1, _ => exact h3.symm
    | 2, _ => exact h4.symm
  · rintro ⟨h1, h2⟩
    rw [lk_in (by omega), lk_in (by omega), lk_in (by omega)]
    exact ⟨h1.symm, (h2 0 (by decide)).symm, (h2 1 (by decide)).symm, (h2 2 (by decide)).symm, Or.inl (by decide)⟩
theorem tq_f {b : Bool} (h : ¬ b = true) : b = false := by
  cases b
  · rfl
  · exact absurd rfl h
theorem rix_at {q : Nat → Bool} {i : Nat} (hi : q i = true) : ∀ n k, k + n = 10 → k ≤ i → i < 10 → (∀ j, k ≤ j → j < i → q j = false) → rix q n k = i
  | 0, k, h1, h2, h3, _ => by omega
  | n + 1, k, h1, h2, h3, ha => by
    unfold rix
    by_cases z : k = i
    · subst z
      rw [if_pos hi]
    · rw [if_neg (by rw [ha k (Nat.le_refl _) (by omega)]; decide)]
      exact rix_at hi n (k + 1) (by omega) (by omega) h3 (fun j h4 h5 => ha j (by omega) h5)
theorem rix_no {q : Nat → Bool} : ∀ n k, k + n = 10 → (∀ j, k ≤ j → j < 10 → q j = false) → rix q n k = 10
  | 0, k, h1, _ => h1
  | n + 1, k, h1, ha => by
    unfold rix
    rw [if_neg (by rw [ha k (Nat.le_refl _) (by omega)]; decide)]
    exact rix_no n (k + 1) (by omega) (fun j h4 h5 => ha j (by omega) h5)
def nmV (f : Nat → Int32) (s e : Nat) : Int32 := if ruleIx f s e < 10 then nI (ruleIx f s e) else -4
set_option maxHeartbeats 4000000 in
set_option maxRecDepth 100000 in
theorem nm8 {l : Launch} {g : Geo} {sta : Nat → Nat} {k : KT} (K : AOK (wM l g sta) mX7_nameNow k) (h : HS) (f : Nat → Int32) (L s e : Nat) (m : MT h f L) (SE : h.1 0 19 = nI s ∧ h.1 0 18 = nI e ∧ s ≤ 200) (hse : s ≤ e) (he : e ≤ L) (q0 : txQ f s e 0 = false) (q1 : txQ f s e 1 = false) (q2 : txQ f s e 2 = false) (q3 : txQ f s e 3 = false) (q4 : txQ f s e 4 = false) (q5 : txQ f s e 5 = false) (q6 : txQ f s e 6 = false) (q7 : txQ f s e 7 = false) : AW (wM l g sta) (DI (nmV f s e) h) 3 mX7_nameNow k 222 [some (.ref (g.2.1 0))] [] h := by
  have s3 := SE.2.2
  have m3 := m.2.2
  refine aw_al0 K dX7_nameNow_222 ?_
  refine aw_iconst (v := 4) K dX7_nameNow_223 (by decide) ?_
  refine aw_bipush (v := 102) K dX7_nameNow_224 (by decide) ?_
  refine aw_bipush (v := 105) K dX7_nameNow_226 (by decide) ?_
  refine aw_bipush (v := 110) K dX7_nameNow_228 (by decide) ?_
  refine aw_bipush (v := 101) K dX7_nameNow_230 (by decide) ?_
  refine aw_callV_I K (tX7_is l g sta _ f L s e m SE _ _ _ _ _) rfl (by decide) fX7_is lX7_169 dX7_nameNow_232 rfl clsX7 rfl (Nat.le_of_ble_eq_true rfl) ?_
  refine aw_if_eq (tgt := 243) K dX7_nameNow_235 (by decide) (fun b235 => ?_) (fun b235 => ?_)
  · have q8 : txQ f s e 8 = false := tq_f (fun z => bI_0.mp b235 ((is_4q (i := 8) rfl hse he m3).mpr z))
    refine aw_al0 K dX7_nameNow_243 ?_
    refine aw_iconst (v := 4) K dX7_nameNow_244 (by decide) ?_
    refine aw_bipush (v := 103) K dX7_nameNow_245 (by decide) ?_
    refine aw_bipush (v := 111) K dX7_nameNow_247 (by decide) ?_
    refine aw_bipush (v := 111) K dX7_nameNow_249 (by decide) ?_
    refine aw_bipush (v := 100) K dX7_nameNow_251 (by decide) ?_
    refine aw_callV_I K (tX7_is l g sta _ f L s e m SE _ _ _ _ _) rfl (by decide) fX7_is lX7_169 dX7_nameNow_253 rfl clsX7 rfl (Nat.le_of_ble_eq_true rfl) ?_
    refine aw_if_eq (tgt := 264) K dX7_nameNow_256 (by decide) (fun b256 => ?_) (fun b256 => ?_)
    · have q9 : txQ f s e 9 = false := tq_f (fun z => bI_0.mp b256 ((is_4q (i := 9) rfl hse he m3).mpr z))
      refine aw_bipush (v := (-4)) K dX7_nameNow_264 (by decide) ?_
      refine aw_iret K rfl dX7_nameNow_266 ?_
      refine ⟨?_, rfl⟩
      have e1 : ruleIx f s e = 10 := rix_no 10 0 rfl (fun j _ hj => by
        match j, hj with
        | 0, _ => exact q0
        | 1, _ => exact q1
        | 2, _ => exact q2
        | 3, _ => exact q3
        | 4, _ => exact q4
        | 5, _ => exact q5
        | 6, _ => exact q6
        | 7, _ => exact q7
        | 8, _ => exact q8
        | 9, _ => exact q9)
      rw [nmV, e1]
      rfl
    · have hq : txQ f s e 9 = true := (is_4q (i := 9) rfl hse he m3).mp (bI_1.mp b256)
      refine aw_bipush (v := 9) K dX7_nameNow_259 (by decide) ?_
      refine aw_goto (tgt := 266) K dX7_nameNow_261 (by decide) ?_
      refine aw_iret K rfl dX7_nameNow_266 ?_
      refine ⟨?_, rfl⟩
      have e1 : ruleIx f s e = 9 := rix_at (i := 9) hq 10 0 rfl (Nat.zero_le _) (by decide) (fun j _ hj => by
        match j, hj with
        | 0, _ => exact q0
        | 1, _ => exact q1
        | 2, _ => exact q2
        | 3, _ => exact q3
        | 4, _ => exact q4
        | 5, _ => exact q5
        | 6, _ => exact q6
        | 7, _ => exact q7
        | 8, _ => exact q8)
      rw [nmV, e1]
      rfl
  · have hq : txQ f s e 8 = true := (is_4q (i := 8) rfl hse he m3).mp (bI_1.mp b235)
    refine aw_bipush (v := 8) K dX7_nameNow_238 (by decide) ?_
    refine aw_goto (tgt := 266) K dX7_nameNow_240 (by decide) ?_
    refine aw_iret K rfl dX7_nameNow_266 ?_
    refine ⟨?_, rfl⟩
    have e1 : ruleIx f s e = 8 := rix_at (i := 8) hq 10 0 rfl (Nat.zero_le _) (by decide) (fun j _ hj => by
      match j, hj with
      | 0, _ => exact q0
      | 1, _ => exact q1
      | 2, _ => exact q2
      | 3, _ => exact q3
      | 4, _ => exact q4
      | 5, _ => exact q5
      | 6, _ => exact q6
      | 7, _ => exact q7)
    rw [nmV, e1]
    rfl
set_option maxHeartbeats 4000000 in
set_option maxRecDepth 100000 in
theorem nm7 {l : Launch} {g : Geo} {sta : Nat → Nat} {k : KT} (K : AOK (wM l g sta) mX7_nameNow k) (h : HS) (f : Nat → Int32) (L s e : Nat) (m : MT h f L) (SE : h.1 0 19 = nI s ∧ h.1 0 18 = nI e ∧ s ≤ 200) (hse : s ≤ e) (he : e ≤ L) (q0 : txQ f s e 0 = false) (q1 : txQ f s e 1 = false) (q2 : txQ f s e 2 = false) (q3 : txQ f s e 3 = false) (q4 : txQ f s e 4 = false) (q5 : txQ f s e 5 = false) (q6 : txQ f s e 6 = false) : AW (wM l g sta) (DI (nmV f s e) h) 3 mX7_nameNow k 172 [some (.ref (g.2.1 0))] [] h := by
  have s3 := SE.2.2
  have m3 := m.2.2
  refine aw_al0 K dX7_nameNow_172 ?_
  refine aw_bipush (v := 6) K dX7_nameNow_173 (by decide) ?_
  refine aw_bipush (v := 112) K dX7_nameNow_175 (by decide) ?_
  refine aw_bipush (v := 108) K dX7_nameNow_177 (by decide) ?_
  refine aw_bipush (v := 101) K dX7_nameNow_179 (by decide) ?_
  refine aw_bipush (v := 100) K dX7_nameNow_181 (by decide) ?_
  refine aw_callV_I K (tX7_is l g sta _ f L s e m SE _ _ _ _ _) rfl (by decide) fX7_is lX7_169 dX7_nameNow_183 rfl clsX7 rfl (Nat.le_of_ble_eq_true rfl) ?_
  refine aw_if_eq (tgt := 222) K dX7_nameNow_186 (by decide) (fun b186 => ?_) (fun b186 => ?_)
  · have q7 : txQ f s e 7 = false := tq_f (fun z => bI_0.mp b186 ((is_4 (i := 7) (k := 6) (by decide) (by decide) rfl hse he m3).mpr ⟨(txQ_i.mp z).1, ((f6 (by decide)).mp (txQ_i.mp z).2).1⟩))
    exact nm8 K h f L s e m SE hse he q0 q1 q2 q3 q4 q5 q6 q7
  · have h4 := (is_4 (i := 7) (k := 6) (by decide) (by decide) rfl hse he m3).mp (bI_1.mp b186)
    have hk : 6 = e - s := h4.1
    refine aw_al0 K dX7_nameNow_189 ?_
    refine aw_al0 K dX7_nameNow_190 ?_
    refine aw_getI K gX7_157 dX7_nameNow_191 rfl rfl ?_
    refine aw_iconst (v := 4) K dX7_nameNow_194 (by decide) ?_
    refine aw_iadd K dX7_nameNow_195 ?_
    rw [SE.1, show (4 : Int32) = nI 4 from rfl, nI_add]
    refine aw_callV_I K (tX7_look l g sta _ f L (s + 4) m (by omega)) rfl (by decide) fX7_look lX7_166 dX7_nameNow_196 rfl clsX7 rfl (Nat.le_of_ble_eq_true rfl) ?_
    refine aw_bipush (v := 103) K dX7_nameNow_199 (by decide) ?_
    rw [lk_in (show s + 4 < L by omega)]
    refine aw_icmp_ne (tgt := 222) K dX7_nameNow_201 (by decide) (fun b201 => ?_) (fun b201 => ?_)
    · have q7 : txQ f s e 7 = false := tq_f (fun z => b201 ((txQ_i.mp z).2 4 (by decide)).symm)
      exact nm8 K h f L s e m SE hse he q0 q1 q2 q3 q4 q5 q6 q7
    · refine aw_al0 K dX7_nameNow_204 ?_
      refine aw_al0 K dX7_nameNow_205 ?_
      refine aw_getI K gX7_157 dX7_nameNow_206 rfl rfl ?_
      refine aw_iconst (v := 5) K dX7_nameNow_209 (by decide) ?_
      refine aw_iadd K dX7_nameNow_210 ?_
      rw [SE.1, show (5 : Int32) = nI 5 from rfl, nI_add]
      refine aw_callV_I K (tX7_look l g sta _ f L (s + 5) m (by omega)) rfl (by decide) fX7_look lX7_166 dX7_nameNow_211 rfl clsX7 rfl (Nat.le_of_ble_eq_true rfl) ?_
      refine aw_bipush (v := 101) K dX7_nameNow_214 (by decide) ?_
      rw [lk_in (show s + 5 < L by omega)]
      refine aw_icmp_ne (tgt := 222) K dX7_nameNow_216 (by decide) (fun b216 => ?_) (fun b216 => ?_)
      · have q7 : txQ f s e 7 = false := tq_f (fun z => b216 ((txQ_i.mp z).2 5 (by decide)).symm)
        exact nm8 K h f L s e m SE hse he q0 q1 q2 q3 q4 q5 q6 q7
      · have hq : txQ f s e 7 = true := txQ_i.mpr ⟨h4.1, (f6 (by decide)).mpr ⟨h4.2, fun j hj => by
          have hj2 : j < 6 := hj.2
          rcases (show j = 4 ∨ j = 5 by omega) with rfl | rfl
          · exact b201.symm
          · exact b216.symm⟩⟩
        refine aw_bipush (v := 7) K dX7_nameNow_219 (by decide) ?_
        refine aw_iret K rfl dX7_nameNow_221 ?_
        refine ⟨?_, rfl⟩
        have e1 : ruleIx f s e = 7 := rix_at (i := 7) hq 10 0 rfl (Nat.zero_le _) (by decide) (fun j _ hj => by
          match j, hj with
          | 0, _ => exact q0
          | 1, _ => exact q1
          | 2, _ => exact q2
          | 3, _ => exact q3
          | 4, _ => exact q4
          | 5, _ => exact q5
          | 6, _ => exact q6)
        rw [nmV, e1]
        rfl
set_option maxHeartbeats 4000000 in
set_option maxRecDepth 100000 in
theorem nm4 {l : Launch} {g : Geo} {sta : Nat → Nat} {k : KT} (K : AOK (wM l g sta) mX7_nameNow k) (h : HS) (f : Nat → Int32) (L s e : Nat) (m : MT h f L) (SE : h.1 0 19 = nI s ∧ h.1 0 18 = nI e ∧ s ≤ 200) (hse : s ≤ e) (he : e ≤ L) (q0 : txQ f s e 0 = false) (q1 : txQ f s e 1 = false) (q2 : txQ f s e 2 = false) (q3 : txQ f s e 3 = false) : AW (wM l g sta) (DI (nmV f s e) h) 3 mX7_nameNow k 117 [some (.ref (g.2.1 0))] [] h := by
  have s3 := SE.2.2
  have m3 := m.2.2
  refine aw_al0 K dX7_nameNow_117 ?_
  refine aw_iconst (v := 4) K dX7_nameNow_118 (by decide) ?_
  refine aw_bipush (v := 102) K dX7_nameNow_119 (by decide) ?_
  refine aw_bipush (v := 97) K dX7_nameNow_121 (by decide) ?_
  refine aw_bipush (v := 100) K dX7_nameNow_123 (by decide) ?_
  refine aw_bipush (v := 101) K dX7_nameNow_125 (by decide) ?_
  refine aw_callV_I K (tX7_is l g sta _ f L s e m SE _ _ _ _ _) rfl (by decide) fX7_is lX7_169 dX7_nameNow_127 rfl clsX7 rfl (Nat.le_of_ble_eq_true rfl) ?_
  refine aw_if_eq (tgt := 135) K dX7_nameNow_130 (by decide) (fun b130 => ?_) (fun b130 => ?_)
  · have q4 : txQ f s e 4 = false := tq_f (fun z => bI_0.mp b130 ((is_4q (i := 4) rfl hse he m3).mpr z))
    refine aw_al0 K dX7_nameNow_135 ?_
    refine aw_iconst (v := 4) K dX7_nameNow_136 (by decide) ?_
    refine aw_bipush (v := 119) K dX7_nameNow_137 (by decide) ?_
    refine aw_bipush (v := 111) K dX7_nameNow_139 (by decide) ?_
    refine aw_bipush (v := 114) K dX7_nameNow_141 (by decide) ?_
    refine aw_bipush (v := 100) K dX7_nameNow_143 (by decide) ?_
    refine aw_callV_I K (tX7_is l g sta _ f L s e m SE _ _ _ _ _) rfl (by decide) fX7_is lX7_169 dX7_nameNow_145 rfl clsX7 rfl (Nat.le_of_ble_eq_true rfl) ?_
    refine aw_if_eq (tgt := 153) K dX7_nameNow_148 (by decide) (fun b148 => ?_) (fun b148 => ?_)
    · have q5 : txQ f s e 5 = false := tq_f (fun z => bI_0.mp b148 ((is_4q (i := 5) rfl hse he m3).mpr z))
      refine aw_al0 K dX7_nameNow_153 ?_
      refine aw_iconst (v := 4) K dX7_nameNow_154 (by decide) ?_
      refine aw_bipush (v := 115) K dX7_nameNow_155 (by decide) ?_
      refine aw_bipush (v := 101) K dX7_nameNow_157 (by decide) ?_
      refine aw_bipush (v := 101) K dX7_nameNow_159 (by decide) ?_
      refine aw_bipush (v := 100) K dX7_nameNow_161 (by decide) ?_
      refine aw_callV_I K (tX7_is l g sta _ f L s e m SE _ _ _ _ _) rfl (by decide) fX7_is lX7_169 dX7_nameNow_163 rfl clsX7 rfl (Nat.le_of_ble_eq_true rfl) ?_
      refine aw_if_eq (tgt := 172) K dX7_nameNow_166 (by decide) (fun b166 => ?_) (fun b166 => ?_)
      · have q6 : txQ f s e 6 = false := tq_f (fun z => bI_0.mp b166 ((is_4q (i := 6) rfl hse he m3).mpr z))
        exact nm7 K h f L s e m SE hse he q0 q1 q2 q3 q4 q5 q6
      · have hq : txQ f s e 6 = true := (is_4q (i := 6) rfl hse he m3).mp (bI_1.mp b166)
        refine aw_bipush (v := 6) K dX7_nameNow_169 (by decide) ?_
        refine aw_iret K rfl dX7_nameNow_171 ?_
        refine ⟨?_, rfl⟩
        have e1 : ruleIx f s e = 6 := rix_at (i := 6) hq 10 0 rfl (Nat.zero_le _) (by decide) (fun j _ hj => by
          match j, hj with
          | 0, _ => exact q0
          | 1, _ => exact q1
          | 2, _ => exact q2
          | 3, _ => exact q3
          | 4, _ => exact q4
          | 5, _ => exact q5)
        rw [nmV, e1]
        rfl
    · have hq : txQ f s e 5 = true := (is_4q (i := 5) rfl hse he m3).mp (bI_1.mp b148)
      refine aw_iconst (v := 5) K dX7_nameNow_151 (by decide) ?_
      refine aw_iret K rfl dX7_nameNow_152 ?_
      refine ⟨?_, rfl⟩
      have e1 : ruleIx f s e = 5 := rix_at (i := 5) hq 10 0 rfl (Nat.zero_le _) (by decide) (fun j _ hj => by
        match j, hj with
        | 0, _ => exact q0
        | 1, _ => exact q1
        | 2, _ => exact q2
        | 3, _ => exact q3
        | 4, _ => exact q4)
      rw [nmV, e1]
      rfl
  · have hq : txQ f s e 4 = true := (is_4q (i := 4) rfl hse he m3).mp (bI_1.mp b130)
    refine aw_iconst (v := 4) K dX7_nameNow_133 (by decide) ?_
    refine aw_iret K rfl dX7_nameNow_134 ?_
    refine ⟨?_, rfl⟩
    have e1 : ruleIx f s e = 4 := rix_at (i := 4) hq 10 0 rfl (Nat.zero_le _) (by decide) (fun j _ hj => by
      match j, hj with
      | 0, _ => exact q0
      | 1, _ => exact q1
      | 2, _ => exact q2
      | 3, _ => exact q3)
    rw [nmV, e1]
    rfl
set_option maxHeartbeats 4000000 in
set_option maxRecDepth 100000 in
theorem nm3 {l : Launch} {g : Geo} {sta : Nat → Nat} {k : KT} (K : AOK (wM l g sta) mX7_nameNow k) (h : HS) (f : Nat → Int32) (L s e : Nat) (m : MT h f L) (SE : h.1 0 19 = nI s ∧ h.1 0 18 = nI e ∧ s ≤ 200) (hse : s ≤ e) (he : e ≤ L) (q0 : txQ f s e 0 = false) (q1 : txQ f s e 1 = false) (q2 : txQ f s e 2 = false) : AW (wM l g sta) (DI (nmV f s e) h) 3 mX7_nameNow k 68 [some (.ref (g.2.1 0))] [] h := by
  have s3 := SE.2.2
  have m3 := m.2.2
  refine aw_al0 K dX7_nameNow_68 ?_
  refine aw_bipush (v := 6) K dX7_nameNow_69 (by decide) ?_
  refine aw_bipush (v := 98) K dX7_nameNow_71 (by decide) ?_
  refine aw_bipush (v := 111) K dX7_nameNow_73 (by decide) ?_
  refine aw_bipush (v := 117) K dX7_nameNow_75 (by decide) ?_
  refine aw_bipush (v := 103) K dX7_nameNow_77 (by decide) ?_
  refine aw_callV_I K (tX7_is l g sta _ f L s e m SE _ _ _ _ _) rfl (by decide) fX7_is lX7_169 dX7_nameNow_79 rfl clsX7 rfl (Nat.le_of_ble_eq_true rfl) ?_
  refine aw_if_eq (tgt := 117) K dX7_nameNow_82 (by decide) (fun b82 => ?_) (fun b82 => ?_)
  · have q3 : txQ f s e 3 = false := tq_f (fun z => bI_0.mp b82 ((is_4 (i := 3) (k := 6) (by decide) (by decide) rfl hse he m3).mpr ⟨(txQ_i.mp z).1, ((f6 (by decide)).mp (txQ_i.mp z).2).1⟩))
    exact nm4 K h f L s e m SE hse he q0 q1 q2 q3
  · have h4 := (is_4 (i := 3) (k := 6) (by decide) (by decide) rfl hse he m3).mp (bI_1.mp b82)
    have hk : 6 = e - s := h4.1
    refine aw_al0 K dX7_nameNow_85 ?_
    refine aw_al0 K dX7_nameNow_86 ?_
    refine aw_getI K gX7_157 dX7_nameNow_87 rfl rfl ?_
    refine aw_iconst (v := 4) K dX7_nameNow_90 (by decide) ?_
    refine aw_iadd K dX7_nameNow_91 ?_
    rw [SE.1, show (4 : Int32) = nI 4 from rfl, nI_add]
    refine aw_callV_I K (tX7_look l g sta _ f L (s + 4) m (by omega)) rfl (by decide) fX7_look lX7_166 dX7_nameNow_92 rfl clsX7 rfl (Nat.le_of_ble_eq_true rfl) ?_
    refine aw_bipush (v := 104) K dX7_nameNow_95 (by decide) ?_
    rw [lk_in (show s + 4 < L by omega)]
    refine aw_icmp_ne (tgt := 117) K dX7_nameNow_97 (by decide) (fun b97 => ?_) (fun b97 => ?_)
    · have q3 : txQ f s e 3 = false := tq_f (fun z => b97 ((txQ_i.mp z).2 4 (by decide)).symm)
      exact nm4 K h f L s e m SE hse he q0 q1 q2 q3
    · refine aw_al0 K dX7_nameNow_100 ?_
      refine aw_al0 K dX7_nameNow_101 ?_
      refine aw_getI K gX7_157 dX7_nameNow_102 rfl rfl ?_
      refine aw_iconst (v := 5) K dX7_nameNow_105 (by decide) ?_
      refine aw_iadd K dX7_nameNow_106 ?_
      rw [SE.1, show (5 : Int32) = nI 5 from rfl, nI_add]
      refine aw_callV_I K (tX7_look l g sta _ f L (s + 5) m (by omega)) rfl (by decide) fX7_look lX7_166 dX7_nameNow_107 rfl clsX7 rfl (Nat.le_of_ble_eq_true rfl) ?_
      refine aw_bipush (v := 116) K dX7_nameNow_110 (by decide) ?_
      rw [lk_in (show s + 5 < L by omega)]
      refine aw_icmp_ne (tgt := 117) K dX7_nameNow_112 (by decide) (fun b112 => ?_) (fun b112 => ?_)
      · have q3 : txQ f s e 3 = false := tq_f (fun z => b112 ((txQ_i.mp z).2 5 (by decide)).symm)
        exact nm4 K h f L s e m SE hse he q0 q1 q2 q3
      · have hq : txQ f s e 3 = true := txQ_i.mpr ⟨h4.1, (f6 (by decide)).mpr ⟨h4.2, fun j hj => by
          have hj2 : j < 6 := hj.2
          rcases (show j = 4 ∨ j = 5 by omega) with rfl | rfl
          · exact b97.symm
          · exact b112.symm⟩⟩
        refine aw_iconst (v := 3) K dX7_nameNow_115 (by decide) ?_
        refine aw_iret K rfl dX7_nameNow_116 ?_
        refine ⟨?_, rfl⟩
        have e1 : ruleIx f s e = 3 := rix_at (i := 3) hq 10 0 rfl (Nat.zero_le _) (by decide) (fun j _ hj => by
          match j, hj with
          | 0, _ => exact q0
          | 1, _ => exact q1
          | 2, _ => exact q2)
        rw [nmV, e1]
        rfl
set_option maxHeartbeats 4000000 in
set_option maxRecDepth 100000 in
theorem nm2 {l : Launch} {g : Geo} {sta : Nat → Nat} {k : KT} (K : AOK (wM l g sta) mX7_nameNow k) (h : HS) (f : Nat → Int32) (L s e : Nat) (m : MT h f L) (SE : h.1 0 19 = nI s ∧ h.1 0 18 = nI e ∧ s ≤ 200) (hse : s ≤ e) (he : e ≤ L) (q0 : txQ f s e 0 = false) (q1 : txQ f s e 1 = false) : AW (wM l g sta) (DI (nmV f s e) h) 3 mX7_nameNow k 50 [some (.ref (g.2.1 0))] [] h := by
  have s3 := SE.2.2
  have m3 := m.2.2
  refine aw_al0 K dX7_nameNow_50 ?_
  refine aw_iconst (v := 4) K dX7_nameNow_51 (by decide) ?_
  refine aw_bipush (v := 115) K dX7_nameNow_52 (by decide) ?_
  refine aw_bipush (v := 97) K dX7_nameNow_54 (by decide) ?_
  refine aw_bipush (v := 105) K dX7_nameNow_56 (by decide) ?_
  refine aw_bipush (v := 100) K dX7_nameNow_58 (by decide) ?_
  refine aw_callV_I K (tX7_is l g sta _ f L s e m SE _ _ _ _ _) rfl (by decide) fX7_is lX7_169 dX7_nameNow_60 rfl clsX7 rfl (Nat.le_of_ble_eq_true rfl) ?_
  refine aw_if_eq (tgt := 68) K dX7_nameNow_63 (by decide) (fun b63 => ?_) (fun b63 => ?_)
  · have q2 : txQ f s e 2 = false := tq_f (fun z => bI_0.mp b63 ((is_4q (i := 2) rfl hse he m3).mpr z))
    exact nm3 K h f L s e m SE hse he q0 q1 q2
  · have hq : txQ f s e 2 = true := (is_4q (i := 2) rfl hse he m3).mp (bI_1.mp b63)
    refine aw_iconst (v := 2) K dX7_nameNow_66 (by decide) ?_
    refine aw_iret K rfl dX7_nameNow_67 ?_
    refine ⟨?_, rfl⟩
    have e1 : ruleIx f s e = 2 := rix_at (i := 2) hq 10 0 rfl (Nat.zero_le _) (by decide) (fun j _ hj => by
      match j, hj with
      | 0, _ => exact q0
      | 1, _ => exact q1)
    rw [nmV, e1]
    rfl
set_option maxHeartbeats 4000000 in
set_option maxRecDepth 100000 in
theorem nm1 {l : Launch} {g : Geo} {sta : Nat → Nat} {k : KT} (K : AOK (wM l g sta) mX7_nameNow k) (h : HS) (f : Nat → Int32) (L s e : Nat) (m : MT h f L) (SE : h.1 0 19 = nI s ∧ h.1 0 18 = nI e ∧ s ≤ 200) (hse : s ≤ e) (he : e ≤ L) (q0 : txQ f s e 0 = false) : AW (wM l g sta) (DI (nmV f s e) h) 3 mX7_nameNow k 17 [some (.ref (g.2.1 0))] [] h := by
  have s3 := SE.2.2
  have m3 := m.2.2
  refine aw_al0 K dX7_nameNow_17 ?_
  refine aw_iconst (v := 5) K dX7_nameNow_18 (by decide) ?_
  refine aw_bipush (v := 100) K dX7_nameNow_19 (by decide) ?_
  refine aw_bipush (v := 101) K dX7_nameNow_21 (by decide) ?_
  refine aw_bipush (v := 97) K dX7_nameNow_23 (by decide) ?_
  refine aw_bipush (v := 108) K dX7_nameNow_25 (by decide) ?_
  refine aw_callV_I K (tX7_is l g sta _ f L s e m SE _ _ _ _ _) rfl (by decide) fX7_is lX7_169 dX7_nameNow_27 rfl clsX7 rfl (Nat.le_of_ble_eq_true rfl) ?_
  refine aw_if_eq (tgt := 50) K dX7_nameNow_30 (by decide) (fun b30 => ?_) (fun b30 => ?_)
  · have q1 : txQ f s e 1 = false := tq_f (fun z => bI_0.mp b30 ((is_4 (i := 1) (k := 5) (by decide) (by decide) rfl hse he m3).mpr ⟨(txQ_i.mp z).1, ((f6 (by decide)).mp (txQ_i.mp z).2).1⟩))
    exact nm2 K h f L s e m SE hse he q0 q1
  · have h4 := (is_4 (i := 1) (k := 5) (by decide) (by decide) rfl hse he m3).mp (bI_1.mp b30)
    have hk : 5 = e - s := h4.1
    refine aw_al0 K dX7_nameNow_33 ?_
    refine aw_al0 K dX7_nameNow_34 ?_
    refine aw_getI K gX7_157 dX7_nameNow_35 rfl rfl ?_
    refine aw_iconst (v := 4) K dX7_nameNow_38 (by decide) ?_
    refine aw_iadd K dX7_nameNow_39 ?_
    rw [SE.1, show (4 : Int32) = nI 4 from rfl, nI_add]
    refine aw_callV_I K (tX7_look l g sta _ f L (s + 4) m (by omega)) rfl (by decide) fX7_look lX7_166 dX7_nameNow_40 rfl clsX7 rfl (Nat.le_of_ble_eq_true rfl) ?_
    refine aw_bipush (v := 116) K dX7_nameNow_43 (by decide) ?_
    rw [lk_in (show s + 4 < L by omega)]
    refine aw_icmp_ne (tgt := 50) K dX7_nameNow_45 (by decide) (fun b45 => ?_) (fun b45 => ?_)
    · have q1 : txQ f s e 1 = false := tq_f (fun z => b45 ((txQ_i.mp z).2 4 (by decide)).symm)
      exact nm2 K h f L s e m SE hse he q0 q1
    · have hq : txQ f s e 1 = true := txQ_i.mpr ⟨h4.1, (f6 (by decide)).mpr ⟨h4.2, fun j hj => by
        have hj2 : j < 5 := hj.2
        obtain rfl : j = 4 := by omega
        exact b45.symm⟩⟩
      refine aw_iconst (v := 1) K dX7_nameNow_48 (by decide) ?_
      refine aw_iret K rfl dX7_nameNow_49 ?_
      refine ⟨?_, rfl⟩
      have e1 : ruleIx f s e = 1 := rix_at (i := 1) hq 10 0 rfl (Nat.zero_le _) (by decide) (fun j _ hj => by
        match j, hj with
        | 0, _ => exact q0)
      rw [nmV, e1]
      rfl
set_option maxHeartbeats 4000000 in
set_option maxRecDepth 100000 in
theorem nm0 {l : Launch} {g : Geo} {sta : Nat → Nat} {k : KT} (K : AOK (wM l g sta) mX7_nameNow k) (h : HS) (f : Nat → Int32) (L s e : Nat) (m : MT h f L) (SE : h.1 0 19 = nI s ∧ h.1 0 18 = nI e ∧ s ≤ 200) (hse : s ≤ e) (he : e ≤ L)  : AW (wM l g sta) (DI (nmV f s e) h) 3 mX7_nameNow k 0 [some (.ref (g.2.1 0))] [] h := by
  have s3 := SE.2.2
  have m3 := m.2.2
  refine aw_al0 K dX7_nameNow_0 ?_
  refine aw_iconst (v := 3) K dX7_nameNow_1 (by decide) ?_
  refine aw_bipush (v := 109) K dX7_nameNow_2 (by decide) ?_
  refine aw_bipush (v := 101) K dX7_nameNow_4 (by decide) ?_
  refine aw_bipush (v := 116) K dX7_nameNow_6 (by decide) ?_
  refine aw_iconst (v := 0) K dX7_nameNow_8 (by decide) ?_
  refine aw_callV_I K (tX7_is l g sta _ f L s e m SE _ _ _ _ _) rfl (by decide) fX7_is lX7_169 dX7_nameNow_9 rfl clsX7 rfl (Nat.le_of_ble_eq_true rfl) ?_
  refine aw_if_eq (tgt := 17) K dX7_nameNow_12 (by decide) (fun b12 => ?_) (fun b12 => ?_)
  · have q0 : txQ f s e 0 = false := tq_f (fun z => bI_0.mp b12 ((is_3q hse he m3).mpr z))
    exact nm1 K h f L s e m SE hse he q0
  · have hq : txQ f s e 0 = true := (is_3q hse he m3).mp (bI_1.mp b12)
    refine aw_iconst (v := 0) K dX7_nameNow_15 (by decide) ?_
    refine aw_iret K rfl dX7_nameNow_16 ?_
    refine ⟨?_, rfl⟩
    have e1 : ruleIx f s e = 0 := rix_at (i := 0) hq 10 0 rfl (Nat.zero_le _) (by decide) (fun j _ hj => absurd hj (Nat.not_lt_zero _))
    rw [nmV, e1]
    rfl
set_option maxHeartbeats 4000000 in
set_option maxRecDepth 100000 in
theorem tX7_nameNow (l : Launch) (g : Geo) (sta : Nat → Nat) (h : HS) (f : Nat → Int32) (L s e : Nat) (m : MT h f L) (SE : h.1 0 19 = nI s ∧ h.1 0 18 = nI e ∧ s ≤ 200) (hse : s ≤ e) (he : e ≤ L) : CT (wM l g sta) 3 mX7_nameNow [.ref (g.2.1 0)] h (DI (nmV f s e) h) := by
  refine CT.at [some (.ref (g.2.1 0))] 0 rfl (by decide) (Nat.le_of_ble_eq_true rfl) (fun k K => ?_)
  exact nm0 K h f L s e m SE hse he
/-- the token T has been read -/
def TM (h : HS) (T : Nat × Nat × Nat × Int32) : Prop := h.1 0 19 = nI T.1 ∧ ((T.2.2.1 = 4 ∧ h.1 0 22 = 1 ∧ h.1 0 23 = nI T.1) ∨ (T.2.2.1 < 4 ∧ h.1 0 22 = 0 ∧ h.1 0 18 = nI T.2.1 ∧ h.1 0 20 = nI T.2.2.1 ∧ (T.2.2.1 = 1 ∨ T.2.2.1 = 2 → h.1 0 21 = T.2.2.2)))
/-- on the way -/
def NQ (h0 h : HS) (f : Nat → Int32) (L q : Nat) : Prop := MFr h0 h ∧ MT h f L ∧ h.1 0 22 = 0 ∧ h.1 0 18 = nI q ∧ q ≤ L
theorem NQ.nx {h0 h : HS} {f : Nat → Int32} {L q : Nat} (a : NQ h0 h f L q) (hq : q < L) : NQ h0 (setI h 0 18 (h.1 0 18 + 1)) f L (q + 1) := by
  obtain ⟨a1, a2, a3, a4, a5⟩ := a
  refine ⟨a1.pt rfl, a2.fr (MFr.rf.pt rfl), a3, ?_, by omega⟩
  rw [rdI, if_pos ⟨rfl, rfl⟩, a4, nI_1]
theorem NQ.pt {h0 h : HS} {f : Nat → Int32} {L q j : Nat} {v : Int32} (a : NQ h0 h f L q) (hj : j = 19 ∨ j = 20 ∨ j = 21) : NQ h0 (setI h 0 j v) f L q := by
  obtain ⟨a1, a2, a3, a4, a5⟩ := a
  rcases hj with rfl | rfl | rfl <;> exact ⟨a1.pt rfl, a2.fr (MFr.rf.pt rfl), a3, a4, a5⟩
theorem lk_W {f : Nat → Int32} {L p : Nat} : lkV f L p = 32 ↔ p < L ∧ tW (f p) = true := by
  unfold lkV
  by_cases q : p < L
  · rw [if_pos q, tW_i]
    exact ⟨fun z => ⟨q, z⟩, fun z => z.2⟩
  · rw [if_neg q]
    exact ⟨fun z => absurd z (by decide), fun z => absurd z.1 q⟩
theorem lk_L {f : Nat → Int32} {L p : Nat} : (97 ≤ lkV f L p ∧ lkV f L p ≤ 122) ↔ p < L ∧ tL (f p) = true := by
  unfold lkV
  by_cases q : p < L
  · rw [if_pos q, tL_i]
    exact ⟨fun z => ⟨q, z⟩, fun z => z.2⟩
  · rw [if_neg q]
    exact ⟨fun z => absurd z (by decide), fun z => absurd z.1 q⟩
theorem lk_F {f : Nat → Int32} {L p : Nat} : (48 ≤ lkV f L p ∧ lkV f L p ≤ 57) ↔ p < L ∧ tF (f p) = true := by
  unfold lkV
  by_cases q : p < L
  · rw [if_pos q, tF_i]
    exact ⟨fun z => ⟨q, z⟩, fun z => z.2⟩
  · rw [if_neg q]
    exact ⟨fun z => absurd z (by decide), fun z => absurd z.1 q⟩
theorem eO_in {t : Int32 → Bool} {f : Nat → Int32} {L p : Nat} (h : p < L) (ht : t (f p) = true) : p < eO t f L p := by
  rw [eO_s h ht]
  exact eO_ge
set_option maxHeartbeats 4000000 in
set_option maxRecDepth 100000 in
theorem lpLX7_next {l : Launch} {g : Geo} {sta : Nat → Nat} {k : KT} (K : AOK (wM l g sta) mX7_next k) (h0 : HS) (f : Nat → Int32) (L p s : Nat) (x : Int32) (hs : eO tW f L p = s) (hsL : s < L) (ht : tL (f s) = true) :
    ∀ (n q : Nat) (h : HS), NQ h0 h f L q → h.1 0 19 = nI s → h.1 0 20 = 1 → s ≤ q → L - q < n → eO tL f L q = eO tL f L s → AW (wM l g sta) (fun o h' => o = none ∧ MFr h0 h' ∧ TM h' (tok f L p)) 5 mX7_next k 82 [some (.ref (g.2.1 0)), some (.int x)] [] h := by
  intro n
  induction n with
  | zero => intro q h a _ _ _ k2; omega
  | succ n ih =>
    intro q h a k19 k20 ksq k2 he
    have a5 := a.2.2.2.2
    have m3 := a.2.1.2.2
    have e0 : tok f L p = tk1 f L s := by rw [tok, hs]
    refine aw_al0 K dX7_next_82 ?_
    refine aw_al0 K dX7_next_83 ?_
    refine aw_getI K gX7_163 dX7_next_84 rfl rfl ?_
    rw [a.2.2.2.1]
    refine aw_callV_I K (tX7_look l g sta _ f L q a.2.1 (by omega)) rfl (by decide) fX7_look lX7_166 dX7_next_87 rfl clsX7 rfl (Nat.le_of_ble_eq_true rfl) ?_
    refine aw_i2l K dX7_next_90 ?_
    refine aw_ldc2 K qX7_176 dX7_next_91 ?_
    refine aw_ldc2 K qX7_178 dX7_next_94 ?_
    refine aw_callS_I K (in32 l g sta _ _ (97) (122) (by decide) (by decide)) rfl (by decide) fX7_in lX7_102 dX7_next_97 rfl (Nat.le_of_ble_eq_true rfl) ?_
    refine aw_if_eq (tgt := 116) K dX7_next_100 (by decide) (fun b100 => ?_) (fun b100 => ?_)
    · have hx : eO tL f L s = q := he ▸ eO_x (fun z => bI_0.mp b100 (lk_L.mpr z))
      refine aw_al0 K dX7_next_116 ?_
      refine aw_al0 K dX7_next_117 ?_
      refine aw_callV_I K (tX7_nameNow l g sta _ f L s q a.2.1 ⟨k19, a.2.2.2.1, by omega⟩ ksq a5) rfl (by decide) fX7_nameNow lX7_180 dX7_next_118 rfl clsX7 rfl (Nat.le_of_ble_eq_true rfl) ?_
      refine aw_putI K gX7_184 fpX7_21 dX7_next_121 rfl rfl ?_
      refine aw_al0 K dX7_next_124 ?_
      refine aw_al0 K dX7_next_125 ?_
      refine aw_getI K gX7_184 dX7_next_126 rfl rfl ?_
      refine aw_bipush (v := (-4)) K dX7_next_129 (by decide) ?_
      refine aw_icmp_eq (tgt := 138) K dX7_next_131 (by decide) (fun b131 => ?_) (fun b131 => ?_)
      · have hr : ¬ ruleIx f s q < 10 := by
          intro z
          have y : nmV f s q = -4 := b131
          rw [nmV, if_pos z] at y
          have u : ∀ r, r < 10 → ¬ nI r = -4 := by decide
          exact u _ z y
        refine aw_iconst (v := 0) K dX7_next_138 (by decide) ?_
        refine aw_iconst (v := 1) K dX7_next_139 (by decide) ?_
        refine aw_callV_V K (wnt_n l g sta _ _ a.2.2.1) rfl (by decide) fX7_wants lX7_187 dX7_next_140 rfl clsX7 rfl (Nat.le_of_ble_eq_true rfl) ?_
        refine aw_goto (tgt := 304) K dX7_next_143 (by decide) ?_
        refine aw_vret K rfl dX7_next_304 ?_
        refine ⟨rfl, ((a.1.pt rfl).pt rfl).pt rfl, ?_⟩
        rw [e0, tk1, if_pos hsL, if_pos ht, hx, if_neg hr]
        exact ⟨k19, Or.inl ⟨rfl, rfl, k19⟩⟩
      · have hr : ruleIx f s q < 10 := by
          rcases Nat.lt_or_ge (ruleIx f s q) 10 with z | z
          · exact z
          · exact absurd (show nmV f s q = -4 from if_neg (Nat.not_lt.mpr z)) b131
        have ev : nmV f s q = nI (ruleIx f s q) := if_pos hr
        refine aw_iconst (v := 1) K dX7_next_134 (by decide) ?_
        refine aw_goto (tgt := 139) K dX7_next_135 (by decide) ?_
        refine aw_iconst (v := 1) K dX7_next_139 (by decide) ?_
        refine aw_callV_V K (wnt_y l g sta _ _ _ (by decide)) rfl (by decide) fX7_wants lX7_187 dX7_next_140 rfl clsX7 rfl (Nat.le_of_ble_eq_true rfl) ?_
        refine aw_goto (tgt := 304) K dX7_next_143 (by decide) ?_
        refine aw_vret K rfl dX7_next_304 ?_
        refine ⟨rfl, a.1.pt rfl, ?_⟩
        rw [e0, tk1, if_pos hsL, if_pos ht, hx, if_pos hr]
        exact ⟨k19, Or.inr ⟨Nat.le_of_ble_eq_true rfl, a.2.2.1, a.2.2.2.1, k20, fun _ => ev⟩⟩
    · have hy := lk_L.mp (bI_1.mp b100)
      refine aw_al0 K dX7_next_103 ?_
      refine aw_dup K dX7_next_104 rfl ?_
      refine aw_getI K gX7_163 dX7_next_105 rfl rfl ?_
      refine aw_iconst (v := 1) K dX7_next_108 (by decide) ?_
      refine aw_iadd K dX7_next_109 ?_
      refine aw_putI K gX7_163 fpX7_18 dX7_next_110 rfl rfl ?_
      refine aw_goto (tgt := 82) K dX7_next_113 (by decide) ?_
      exact ih (q + 1) _ (a.nx hy.1) k19 k20 (by omega) (by omega) ((eO_s hy.1 hy.2).symm.trans he)
def FQ (h0 h : HS) (f : Nat → Int32) (L s q : Nat) : Prop := NQ h0 h f L q ∧ h.1 0 19 = nI s ∧ h.1 0 20 = 2 ∧ s ≤ q ∧ h.1 0 21 = numTo f s (q - s)
theorem FQ.nx {h0 h : HS} {f : Nat → Int32} {L s q : Nat} {v : Int32} (a : FQ h0 h f L s q) (hq : q < L) (hv : v = numTo f s (q - s + 1)) : FQ h0 (setI (setI h 0 21 v) 0 18 (h.1 0 18 + 1)) f L s (q + 1) := by
  have h4 := a.2.2.2.1
  refine ⟨(a.1.pt (v := v) (Or.inr (Or.inr rfl))).nx hq, a.2.1, a.2.2.1, by omega, ?_⟩
  rw [show q + 1 - s = q - s + 1 by omega, ← hv]
  rfl
set_option maxHeartbeats 4000000 in
set_option maxRecDepth 100000 in
theorem lpFX7_next {l : Launch} {g : Geo} {sta : Nat → Nat} {k : KT} (K : AOK (wM l g sta) mX7_next k) (h0 : HS) (f : Nat → Int32) (L p s : Nat) (x : Int32) (hs : eO tW f L p = s) (hsL : s < L) (htL : ¬ tL (f s) = true) (ht : tF (f s) = true) :
    ∀ (n q : Nat) (h : HS), FQ h0 h f L s q → L - q < n → eO tF f L q = eO tF f L s → AW (wM l g sta) (fun o h' => o = none ∧ MFr h0 h' ∧ TM h' (tok f L p)) 5 mX7_next k 170 [some (.ref (g.2.1 0)), some (.int x)] [] h := by
  intro n
  induction n with
  | zero => intro q h a k2; omega
  | succ n ih =>
    intro q h aa k2 he
    have a := aa.1
    have a5 := a.2.2.2.2
    have m3 := a.2.1.2.2
    have ksq := aa.2.2.2.1
    have e0 : tok f L p = tk1 f L s := by rw [tok, hs]
    refine aw_al0 K dX7_next_170 ?_
    refine aw_al0 K dX7_next_171 ?_
    refine aw_getI K gX7_163 dX7_next_172 rfl rfl ?_
    rw [a.2.2.2.1]
    refine aw_callV_I K (tX7_look l g sta _ f L q a.2.1 (by omega)) rfl (by decide) fX7_look lX7_166 dX7_next_175 rfl clsX7 rfl (Nat.le_of_ble_eq_true rfl) ?_
    refine aw_i2l K dX7_next_178 ?_
    refine aw_ldc2 K qX7_191 dX7_next_179 ?_
    refine aw_ldc2 K qX7_193 dX7_next_182 ?_
    refine aw_callS_I K (in32 l g sta _ _ (48) (57) (by decide) (by decide)) rfl (by decide) fX7_in lX7_102 dX7_next_185 rfl (Nat.le_of_ble_eq_true rfl) ?_
    refine aw_if_eq (tgt := 247) K dX7_next_188 (by decide) (fun b188 => ?_) (fun b188 => ?_)
    · have hx : eO tF f L s = q := he ▸ eO_x (fun z => bI_0.mp b188 (lk_F.mpr z))
      refine aw_al0 K dX7_next_247 ?_
      refine aw_al0 K dX7_next_248 ?_
      refine aw_getI K gX7_163 dX7_next_249 rfl rfl ?_
      refine aw_al0 K dX7_next_252 ?_
      refine aw_getI K gX7_157 dX7_next_253 rfl rfl ?_
      refine aw_isub K dX7_next_256 ?_
      refine aw_iconst (v := 4) K dX7_next_257 (by decide) ?_
      rw [a.2.2.2.1, aa.2.1]
      refine aw_icmp_gt (tgt := 265) K dX7_next_258 (by decide) (fun b258 => ?_) (fun b258 => ?_)
      · have hz : ¬ q - s ≤ 4 := fun z => absurd b258 (Int32.not_lt.mpr ((nu_le2 ksq (by omega)).mpr z))
        refine aw_iconst (v := 0) K dX7_next_265 (by decide) ?_
        refine aw_iconst (v := 1) K dX7_next_266 (by decide) ?_
        refine aw_callV_V K (wnt_n l g sta _ _ a.2.2.1) rfl (by decide) fX7_wants lX7_187 dX7_next_267 rfl clsX7 rfl (Nat.le_of_ble_eq_true rfl) ?_
        refine aw_goto (tgt := 304) K dX7_next_270 (by decide) ?_
        refine aw_vret K rfl dX7_next_304 ?_
        refine ⟨rfl, (a.1.pt rfl).pt rfl, ?_⟩
        rw [e0, tk1, if_pos hsL, if_neg htL, if_pos ht, hx, if_neg hz]
        exact ⟨aa.2.1, Or.inl ⟨rfl, rfl, aa.2.1⟩⟩
      · have hz : q - s ≤ 4 := (nu_le2 ksq (by omega)).mp (Int32.not_lt.mp b258)
        refine aw_iconst (v := 1) K dX7_next_261 (by decide) ?_
        refine aw_goto (tgt := 266) K dX7_next_262 (by decide) ?_
        refine aw_iconst (v := 1) K dX7_next_266 (by decide) ?_
        refine aw_callV_V K (wnt_y l g sta _ _ _ (by decide)) rfl (by decide) fX7_wants lX7_187 dX7_next_267 rfl clsX7 rfl (Nat.le_of_ble_eq_true rfl) ?_
        refine aw_goto (tgt := 304) K dX7_next_270 (by decide) ?_
        refine aw_vret K rfl dX7_next_304 ?_
        refine ⟨rfl, a.1, ?_⟩
        rw [e0, tk1, if_pos hsL, if_neg htL, if_pos ht, hx, if_pos hz]
        exact ⟨aa.2.1, Or.inr ⟨Nat.le_of_ble_eq_true rfl, a.2.2.1, a.2.2.2.1, aa.2.2.1, fun _ => aa.2.2.2.2⟩⟩
    · have hy := lk_F.mp (bI_1.mp b188)
      refine aw_al0 K dX7_next_191 ?_
      refine aw_al0 K dX7_next_192 ?_
      refine aw_getI K gX7_163 dX7_next_193 rfl rfl ?_
      refine aw_al0 K dX7_next_196 ?_
      refine aw_getI K gX7_157 dX7_next_197 rfl rfl ?_
      refine aw_isub K dX7_next_200 ?_
      refine aw_iconst (v := 4) K dX7_next_201 (by decide) ?_
      refine aw_icmp_ge (tgt := 227) K dX7_next_202 (by decide) (fun b202 => ?_) (fun b202 => ?_)
      · refine aw_al0 K dX7_next_227 ?_
        refine aw_getI K gX7_184 dX7_next_228 rfl rfl ?_
        refine aw_putI K gX7_184 fpX7_21 dX7_next_231 rfl rfl ?_
        refine aw_al0 K dX7_next_234 ?_
        refine aw_dup K dX7_next_235 rfl ?_
        refine aw_getI K gX7_163 dX7_next_236 rfl rfl ?_
        refine aw_iconst (v := 1) K dX7_next_239 (by decide) ?_
        refine aw_iadd K dX7_next_240 ?_
        refine aw_putI K gX7_163 fpX7_18 dX7_next_241 rfl rfl ?_
        refine aw_goto (tgt := 170) K dX7_next_244 (by decide) ?_
        rw [a.2.2.2.1, aa.2.1] at b202
        have hz := (nu_le ksq (by omega)).mp b202
        exact ih (q + 1) _ (aa.nx hy.1 (by rw [aa.2.2.2.2]; exact (if_neg (by omega)).symm)) (by omega) ((eO_s hy.1 hy.2).symm.trans he)
      · refine aw_bipush (v := 10) K dX7_next_205 (by decide) ?_
        refine aw_al0 K dX7_next_207 ?_
        refine aw_getI K gX7_184 dX7_next_208 rfl rfl ?_
        refine aw_imul K dX7_next_211 ?_
        refine aw_al0 K dX7_next_212 ?_
        refine aw_al0 K dX7_next_213 ?_
        refine aw_getI K gX7_163 dX7_next_214 rfl rfl ?_
        rw [a.2.2.2.1]
        refine aw_callV_I K (tX7_look l g sta _ f L q a.2.1 (by omega)) rfl (by decide) fX7_look lX7_166 dX7_next_217 rfl clsX7 rfl (Nat.le_of_ble_eq_true rfl) ?_
        refine aw_iadd K dX7_next_220 ?_
        refine aw_bipush (v := 48) K dX7_next_221 (by decide) ?_
        refine aw_isub K dX7_next_223 ?_
        refine aw_goto (tgt := 231) K dX7_next_224 (by decide) ?_
        refine aw_putI K gX7_184 fpX7_21 dX7_next_231 rfl rfl ?_
        refine aw_al0 K dX7_next_234 ?_
        refine aw_dup K dX7_next_235 rfl ?_
        refine aw_getI K gX7_163 dX7_next_236 rfl rfl ?_
        refine aw_iconst (v := 1) K dX7_next_239 (by decide) ?_
        refine aw_iadd K dX7_next_240 ?_
        refine aw_putI K gX7_163 fpX7_18 dX7_next_241 rfl rfl ?_
        refine aw_goto (tgt := 170) K dX7_next_244 (by decide) ?_
        rw [a.2.2.2.1, aa.2.1] at b202
        have hz : ¬ 4 ≤ q - s := fun z => b202 ((nu_le ksq (by omega)).mpr z)
        exact ih (q + 1) _ (aa.nx hy.1 (by rw [lk_in hy.1, aa.2.2.2.2]; exact ((if_pos (by omega)).trans (by rw [show s + (q - s) = q by omega])).symm)) (by omega) ((eO_s hy.1 hy.2).symm.trans he)
set_option maxHeartbeats 4000000 in
set_option maxRecDepth 100000 in
theorem lp2X7_next {l : Launch} {g : Geo} {sta : Nat → Nat} {k : KT} (K : AOK (wM l g sta) mX7_next k) (h0 h : HS) (f : Nat → Int32) (L p q : Nat) (hs : eO tW f L p = q) (hby : ∀ j, j < L → ¬ f j < 0) (a : NQ h0 h f L q) : AW (wM l g sta) (fun o h' => o = none ∧ MFr h0 h' ∧ TM h' (tok f L p)) 5 mX7_next k 34 [some (.ref (g.2.1 0)), none] [] h := by
  have a5 := a.2.2.2.2
  have m3 := a.2.1.2.2
  have e0 : tok f L p = tk1 f L q := by rw [tok, hs]
  refine aw_al0 K dX7_next_34 ?_
  refine aw_al0 K dX7_next_35 ?_
  refine aw_getI K gX7_163 dX7_next_36 rfl rfl ?_
  refine aw_putI K gX7_157 fpX7_19 dX7_next_39 rfl rfl ?_
  have aq : NQ h0 (setI h 0 19 (h.1 0 18)) f L q := a.pt (Or.inl rfl)
  refine aw_al0 K dX7_next_42 ?_
  refine aw_al0 K dX7_next_43 ?_
  refine aw_getI K gX7_163 dX7_next_44 rfl rfl ?_
  rw [show (setI h 0 19 (h.1 0 18)).1 0 18 = nI q from a.2.2.2.1]
  refine aw_callV_I K (tX7_look l g sta _ f L q aq.2.1 (by omega)) rfl (by decide) fX7_look lX7_166 dX7_next_47 rfl clsX7 rfl (Nat.le_of_ble_eq_true rfl) ?_
  refine aw_is1 K dX7_next_50 (by decide) rfl ?_
  refine aw_il1 K dX7_next_51 ?_
  refine aw_if_ge (tgt := 63) K dX7_next_52 (by decide) (fun b52 => ?_) (fun b52 => ?_)
  · have hlt : q < L := by
      rcases Nat.lt_or_ge q L with z | z
      · exact z
      · rw [lkV, if_neg (Nat.not_lt.mpr z)] at b52
        exact absurd b52 (by decide)
    refine aw_il1 K dX7_next_63 ?_
    refine aw_i2l K dX7_next_64 ?_
    refine aw_ldc2 K qX7_176 dX7_next_65 ?_
    refine aw_ldc2 K qX7_178 dX7_next_68 ?_
    refine aw_callS_I K (in32 l g sta _ _ (97) (122) (by decide) (by decide)) rfl (by decide) fX7_in lX7_102 dX7_next_71 rfl (Nat.le_of_ble_eq_true rfl) ?_
    refine aw_if_eq (tgt := 146) K dX7_next_74 (by decide) (fun b74 => ?_) (fun b74 => ?_)
    · have hy : ¬ tL (f q) = true := fun z => bI_0.mp b74 (lk_L.mpr ⟨hlt, z⟩)
      refine aw_il1 K dX7_next_146 ?_
      refine aw_i2l K dX7_next_147 ?_
      refine aw_ldc2 K qX7_191 dX7_next_148 ?_
      refine aw_ldc2 K qX7_193 dX7_next_151 ?_
      refine aw_callS_I K (in32 l g sta _ _ (48) (57) (by decide) (by decide)) rfl (by decide) fX7_in lX7_102 dX7_next_154 rfl (Nat.le_of_ble_eq_true rfl) ?_
      refine aw_if_eq (tgt := 273) K dX7_next_157 (by decide) (fun b157 => ?_) (fun b157 => ?_)
      · have hw : ¬ tF (f q) = true := fun z => bI_0.mp b157 (lk_F.mpr ⟨hlt, z⟩)
        refine aw_al0 K dX7_next_273 ?_
        refine aw_iconst (v := 3) K dX7_next_274 (by decide) ?_
        refine aw_putI K gX7_173 fpX7_20 dX7_next_275 rfl rfl ?_
        refine aw_al0 K dX7_next_278 ?_
        refine aw_il1 K dX7_next_279 ?_
        refine aw_bipush (v := 59) K dX7_next_280 (by decide) ?_
        rw [lk_in hlt]
        refine aw_icmp_ne (tgt := 289) K dX7_next_282 (by decide) (fun b282 => ?_) (fun b282 => ?_)
        · refine aw_iconst (v := 0) K dX7_next_289 (by decide) ?_
          refine aw_iconst (v := 1) K dX7_next_290 (by decide) ?_
          refine aw_callV_V K (wnt_n l g sta _ _ a.2.2.1) rfl (by decide) fX7_wants lX7_187 dX7_next_291 rfl clsX7 rfl (Nat.le_of_ble_eq_true rfl) ?_
          refine aw_al0 K dX7_next_294 ?_
          refine aw_dup K dX7_next_295 rfl ?_
          refine aw_getI K gX7_163 dX7_next_296 rfl rfl ?_
          refine aw_iconst (v := 1) K dX7_next_299 (by decide) ?_
          refine aw_iadd K dX7_next_300 ?_
          refine aw_putI K gX7_163 fpX7_18 dX7_next_301 rfl rfl ?_
          refine aw_vret K rfl dX7_next_304 ?_
          refine ⟨rfl, ((((a.1.pt rfl).pt rfl).pt rfl).pt rfl).pt rfl, ?_⟩
          rw [e0, tk1, if_pos hlt, if_neg hy, if_neg hw, if_neg b282]
          exact ⟨a.2.2.2.1, Or.inl ⟨rfl, rfl, a.2.2.2.1⟩⟩
        · refine aw_iconst (v := 1) K dX7_next_285 (by decide) ?_
          refine aw_goto (tgt := 290) K dX7_next_286 (by decide) ?_
          refine aw_iconst (v := 1) K dX7_next_290 (by decide) ?_
          refine aw_callV_V K (wnt_y l g sta _ _ _ (by decide)) rfl (by decide) fX7_wants lX7_187 dX7_next_291 rfl clsX7 rfl (Nat.le_of_ble_eq_true rfl) ?_
          refine aw_al0 K dX7_next_294 ?_
          refine aw_dup K dX7_next_295 rfl ?_
          refine aw_getI K gX7_163 dX7_next_296 rfl rfl ?_
          refine aw_iconst (v := 1) K dX7_next_299 (by decide) ?_
          refine aw_iadd K dX7_next_300 ?_
          refine aw_putI K gX7_163 fpX7_18 dX7_next_301 rfl rfl ?_
          refine aw_vret K rfl dX7_next_304 ?_
          refine ⟨rfl, ((a.1.pt rfl).pt rfl).pt rfl, ?_⟩
          rw [e0, tk1, if_pos hlt, if_neg hy, if_neg hw, if_pos b282]
          exact ⟨a.2.2.2.1, Or.inr ⟨Nat.le_of_ble_eq_true rfl, a.2.2.1, (by rw [rdI, if_pos ⟨rfl, rfl⟩]; exact (congrArg (· + 1) a.2.2.2.1).trans (nI_1 _)), rfl, fun z => absurd z (by simp)⟩⟩
      · have hw := (lk_F.mp (bI_1.mp b157)).2
        refine aw_al0 K dX7_next_160 ?_
        refine aw_iconst (v := 2) K dX7_next_161 (by decide) ?_
        refine aw_putI K gX7_173 fpX7_20 dX7_next_162 rfl rfl ?_
        refine aw_al0 K dX7_next_165 ?_
        refine aw_iconst (v := 0) K dX7_next_166 (by decide) ?_
        refine aw_putI K gX7_184 fpX7_21 dX7_next_167 rfl rfl ?_
        exact lpFX7_next K h0 f L p q _ hs hlt hy hw (L - q + 1) q _ ⟨(aq.pt (Or.inr (Or.inl rfl))).pt (Or.inr (Or.inr rfl)), a.2.2.2.1, rfl, Nat.le_refl _, by rw [Nat.sub_self]; rfl⟩ (by omega) rfl
    · have hy := (lk_L.mp (bI_1.mp b74)).2
      refine aw_al0 K dX7_next_77 ?_
      refine aw_iconst (v := 1) K dX7_next_78 (by decide) ?_
      refine aw_putI K gX7_173 fpX7_20 dX7_next_79 rfl rfl ?_
      exact lpLX7_next K h0 f L p q _ hs hlt hy (L - q + 1) q _ (aq.pt (Or.inr (Or.inl rfl))) a.2.2.2.1 rfl (Nat.le_refl _) (by omega) rfl
  · have hge : ¬ q < L := fun z => b52 (by rw [lk_in z]; exact Int32.not_lt.mp (hby q z))
    refine aw_al0 K dX7_next_55 ?_
    refine aw_iconst (v := 0) K dX7_next_56 (by decide) ?_
    refine aw_putI K gX7_173 fpX7_20 dX7_next_57 rfl rfl ?_
    refine aw_goto (tgt := 304) K dX7_next_60 (by decide) ?_
    refine aw_vret K rfl dX7_next_304 ?_
    refine ⟨rfl, (a.1.pt rfl).pt rfl, ?_⟩
    rw [e0, tk1, if_neg hge]
    exact ⟨a.2.2.2.1, Or.inr ⟨Nat.le_of_ble_eq_true rfl, a.2.2.1, a.2.2.2.1, rfl, fun z => absurd z (by simp)⟩⟩
set_option maxHeartbeats 4000000 in
set_option maxRecDepth 100000 in
theorem lp1X7_next {l : Launch} {g : Geo} {sta : Nat → Nat} {k : KT} (K : AOK (wM l g sta) mX7_next k) (h0 : HS) (f : Nat → Int32) (L p : Nat) (hby : ∀ j, j < L → ¬ f j < 0) :
    ∀ (n q : Nat) (h : HS), NQ h0 h f L q → L - q < n → eO tW f L q = eO tW f L p → AW (wM l g sta) (fun o h' => o = none ∧ MFr h0 h' ∧ TM h' (tok f L p)) 5 mX7_next k 8 [some (.ref (g.2.1 0)), none] [] h := by
  intro n
  induction n with
  | zero => intro q h a k2; omega
  | succ n ih =>
    intro q h a k2 he
    have a5 := a.2.2.2.2
    have m3 := a.2.1.2.2
    refine aw_al0 K dX7_next_8 ?_
    refine aw_al0 K dX7_next_9 ?_
    refine aw_getI K gX7_163 dX7_next_10 rfl rfl ?_
    rw [a.2.2.2.1]
    refine aw_callV_I K (tX7_look l g sta _ f L q a.2.1 (by omega)) rfl (by decide) fX7_look lX7_166 dX7_next_13 rfl clsX7 rfl (Nat.le_of_ble_eq_true rfl) ?_
    refine aw_bipush (v := 32) K dX7_next_16 (by decide) ?_
    refine aw_icmp_ne (tgt := 34) K dX7_next_18 (by decide) (fun b18 => ?_) (fun b18 => ?_)
    · have hx : eO tW f L p = q := he ▸ eO_x (fun z => b18 (lk_W.mpr z))
      exact lp2X7_next K h0 h f L p q hx hby a
    · have hy := lk_W.mp b18
      refine aw_al0 K dX7_next_21 ?_
      refine aw_dup K dX7_next_22 rfl ?_
      refine aw_getI K gX7_163 dX7_next_23 rfl rfl ?_
      refine aw_iconst (v := 1) K dX7_next_26 (by decide) ?_
      refine aw_iadd K dX7_next_27 ?_
      refine aw_putI K gX7_163 fpX7_18 dX7_next_28 rfl rfl ?_
      refine aw_goto (tgt := 8) K dX7_next_31 (by decide) ?_
      exact ih (q + 1) _ (a.nx hy.1) (by omega) ((eO_s hy.1 hy.2).symm.trans he)
set_option maxHeartbeats 4000000 in
set_option maxRecDepth 100000 in
theorem tX7_next (l : Launch) (g : Geo) (sta : Nat → Nat) (h : HS) (f : Nat → Int32) (L p : Nat) (m : MT h f L) (hby : ∀ j, j < L → ¬ f j < 0) (f0 : h.1 0 22 = 0) (hp : h.1 0 18 = nI p) (hpL : p ≤ L) : CT (wM l g sta) 5 mX7_next [.ref (g.2.1 0)] h ((fun o h' => o = none ∧ MFr h h' ∧ TM h' (tok f L p))) := by
  refine CT.at [some (.ref (g.2.1 0)), none] 1 rfl (by decide) (Nat.le_of_ble_eq_true rfl) (fun k K => ?_)
  refine aw_al0 K dX7_next_0 ?_
  refine aw_getI K gX7_154 dX7_next_1 rfl rfl ?_
  refine aw_if_le (tgt := 8) K dX7_next_4 (by decide) (fun b4 => ?_) (fun b4 => ?_)
  · exact lp1X7_next K h f L p hby (L - p + 1) p h ⟨MFr.rf, m, f0, hp, hpL⟩ (by omega) rfl
  · rw [f0] at b4
    exact absurd (by decide) b4

set_option maxHeartbeats 4000000 in
set_option maxRecDepth 100000 in
theorem nxt_f (l : Launch) (g : Geo) (sta : Nat → Nat) (h : HS) (f0 : 0 < h.1 0 22) : CT (wM l g sta) 5 mX7_next [.ref (g.2.1 0)] h (DV h) := by
  refine CT.at [some (.ref (g.2.1 0)), none] 1 rfl (by decide) (Nat.le_of_ble_eq_true rfl) (fun k K => ?_)
  refine aw_al0 K dX7_next_0 ?_
  refine aw_getI K gX7_154 dX7_next_1 rfl rfl ?_
  refine aw_if_le (tgt := 8) K dX7_next_4 (by decide) (fun b4 => ?_) (fun b4 => ?_)
  · exact absurd f0 (Int32.not_lt.mpr b4)
  · refine aw_vret K rfl dX7_next_7 ?_
    exact ⟨rfl, rfl⟩

theorem r1_c : ∀ r, r < 10 → (if nI r = 6 ∨ nI r = 9 then (1 : Int32) else 0) = aw_r1 r := by decide
theorem r2_c : ∀ r, r < 10 → (if nI r = 6 ∨ nI r = 8 then (999 : Int32) else if nI r = 9 then 10 else 100) = aw_r2 r := by decide
set_option maxHeartbeats 4000000 in
set_option maxRecDepth 100000 in
theorem tX7_least (l : Launch) (g : Geo) (sta : Nat → Nat) (h : HS) (r : Nat) (hr : r < 10) : CT (wM l g sta) 1 mX7_least [.int (nI r)] h (DI (aw_r1 r) h) := by
  refine CT.at [some (.int (nI r))] 0 rfl (by decide) (Nat.le_of_ble_eq_true rfl) (fun k K => ?_)
  refine aw_il0 K dX7_least_0 ?_
  refine aw_bipush (v := 6) K dX7_least_1 (by decide) ?_
  refine aw_icmp_eq (tgt := 12) K dX7_least_3 (by decide) (fun b3 => ?_) (fun b3 => ?_)
  · refine aw_iconst (v := 1) K dX7_least_12 (by decide) ?_
    refine aw_goto (tgt := 17) K dX7_least_13 (by decide) ?_
    refine aw_iret K rfl dX7_least_17 ?_
    refine ⟨?_, rfl⟩
    rw [← r1_c r hr, if_pos (Or.inl b3)]
  · refine aw_il0 K dX7_least_6 ?_
    refine aw_bipush (v := 9) K dX7_least_7 (by decide) ?_
    refine aw_icmp_ne (tgt := 16) K dX7_least_9 (by decide) (fun b9 => ?_) (fun b9 => ?_)
    · refine aw_iconst (v := 0) K dX7_least_16 (by decide) ?_
      refine aw_iret K rfl dX7_least_17 ?_
      refine ⟨?_, rfl⟩
      rw [← r1_c r hr, if_neg (fun q => q.elim b3 b9)]
    · refine aw_iconst (v := 1) K dX7_least_12 (by decide) ?_
      refine aw_goto (tgt := 17) K dX7_least_13 (by decide) ?_
      refine aw_iret K rfl dX7_least_17 ?_
      refine ⟨?_, rfl⟩
      rw [← r1_c r hr, if_pos (Or.inr b9)]

set_option maxHeartbeats 4000000 in
set_option maxRecDepth 100000 in
theorem tX7_most (l : Launch) (g : Geo) (sta : Nat → Nat) (h : HS) (r : Nat) (hr : r < 10) : CT (wM l g sta) 1 mX7_most [.int (nI r)] h (DI (aw_r2 r) h) := by
  refine CT.at [some (.int (nI r))] 0 rfl (by decide) (Nat.le_of_ble_eq_true rfl) (fun k K => ?_)
  refine aw_il0 K dX7_most_0 ?_
  refine aw_bipush (v := 6) K dX7_most_1 (by decide) ?_
  refine aw_icmp_eq (tgt := 12) K dX7_most_3 (by decide) (fun b3 => ?_) (fun b3 => ?_)
  · refine aw_sipush (v := 999) K dX7_most_12 (by decide) ?_
    refine aw_goto (tgt := 31) K dX7_most_15 (by decide) ?_
    refine aw_iret K rfl dX7_most_31 ?_
    refine ⟨?_, rfl⟩
    rw [← r2_c r hr, if_pos (Or.inl b3)]
  · refine aw_il0 K dX7_most_6 ?_
    refine aw_bipush (v := 8) K dX7_most_7 (by decide) ?_
    refine aw_icmp_ne (tgt := 18) K dX7_most_9 (by decide) (fun b9 => ?_) (fun b9 => ?_)
    · refine aw_il0 K dX7_most_18 ?_
      refine aw_bipush (v := 9) K dX7_most_19 (by decide) ?_
      refine aw_icmp_ne (tgt := 29) K dX7_most_21 (by decide) (fun b21 => ?_) (fun b21 => ?_)
      · refine aw_bipush (v := 100) K dX7_most_29 (by decide) ?_
        refine aw_iret K rfl dX7_most_31 ?_
        refine ⟨?_, rfl⟩
        rw [← r2_c r hr, if_neg (fun q => q.elim b3 b9), if_neg b21]
      · refine aw_bipush (v := 10) K dX7_most_24 (by decide) ?_
        refine aw_goto (tgt := 31) K dX7_most_26 (by decide) ?_
        refine aw_iret K rfl dX7_most_31 ?_
        refine ⟨?_, rfl⟩
        rw [← r2_c r hr, if_neg (fun q => q.elim b3 b9), if_pos b21]
    · refine aw_sipush (v := 999) K dX7_most_12 (by decide) ?_
      refine aw_goto (tgt := 31) K dX7_most_15 (by decide) ?_
      refine aw_iret K rfl dX7_most_31 ?_
      refine ⟨?_, rfl⟩
      rw [← r2_c r hr, if_pos (Or.inr b9)]

def LMf (h h' : HS) : Prop := (∀ c, c ≠ 0 → c ≠ 12 → c ≠ 13 → h'.1 c = h.1 c) ∧ ∀ j, j < 18 ∨ 23 < j → h'.1 0 j = h.1 0 j
theorem LMf.rf {h : HS} : LMf h h := ⟨fun _ _ _ _ => rfl, fun _ _ => rfl⟩
theorem LMf.tr {h h1 h2 : HS} (a : LMf h h1) (b : LMf h1 h2) : LMf h h2 := ⟨fun c q1 q2 q3 => (b.1 c q1 q2 q3).trans (a.1 c q1 q2 q3), fun j hj => (b.2 j hj).trans (a.2 j hj)⟩
theorem LMf.fr {h h1 h2 : HS} (a : LMf h h1) (b : MFr h1 h2) : LMf h h2 := ⟨fun c q1 q2 q3 => (b.1 c q1).trans (a.1 c q1 q2 q3), fun j hj => (b.2 j hj).trans (a.2 j hj)⟩
theorem LMf.dr {h h1 : HS} {c j : Nat} {v : Int32} (a : LMf h h1) (hc : c = 12 ∨ c = 13) : LMf h (setI h1 c j v) := by
  rcases hc with rfl | rfl
  · exact ⟨fun c q1 q2 q3 => by rw [setI_w q2]; exact a.1 c q1 q2 q3, a.2⟩
  · exact ⟨fun c q1 q2 q3 => by rw [setI_w q3]; exact a.1 c q1 q2 q3, a.2⟩
/-- what a line leaves -/
def RLM (h h' : HS) (f : Nat → Int32) (L : Nat) (R : Int32 × Nat × Nat × Nat × Int32) : Prop := LMf h h' ∧ (R.1 = 0 → TM h' (tok f L R.2.2.1) ∧ h'.1 13 = upd (h.1 13) R.2.2.2.1 1 ∧ h'.1 12 = upd (h.1 12) R.2.2.2.1 R.2.2.2.2) ∧ (¬ R.1 = 0 → h'.1 0 22 = R.1 ∧ h'.1 0 23 = nI R.2.1)
theorem RLM.no {h h' : HS} {f : Nat → Int32} {L : Nat} {c : Int32} {s : Nat} {x : Nat × Nat × Int32} (a : LMf h h') (hc : ¬ c = 0) (e1 : h'.1 0 22 = c) (e2 : h'.1 0 23 = nI s) : RLM h h' f L (c, s, x) := ⟨a, fun q => absurd q hc, fun _ => ⟨e1, e2⟩⟩
theorem TM.k {h : HS} {T : Nat × Nat × Nat × Int32} (z : TM h T) : (T.2.2.1 = 4 ∧ h.1 0 22 = 1 ∧ h.1 0 23 = nI T.1) ∨ (T.2.2.1 < 4 ∧ h.1 0 22 = 0 ∧ h.1 0 18 = nI T.2.1 ∧ h.1 0 20 = nI T.2.2.1 ∧ (T.2.2.1 = 1 ∨ T.2.2.1 = 2 → h.1 0 21 = T.2.2.2)) := z.2
theorem f_pos {x : Int32} (h : 0 < x) : ¬ x = 0 := fun q => by rw [q] at h; exact absurd h (by decide)
set_option maxHeartbeats 4000000 in
set_option maxRecDepth 100000 in
theorem tl118 {l : Launch} {g : Geo} {sta : Nat → Nat} {k : KT} {P : Option Value → HS → Prop} (K : AOK (wM l g sta) mX7_readLine k) (h : HS) (x v : Int32) (f0 : 0 < h.1 0 22) (hP : P none h) : AW (wM l g sta) P 6 mX7_readLine k 118 [some (.ref (g.2.1 0)), some (.int x), some (.int v)] [] h := by
  refine aw_al0 K dX7_readLine_118 ?_
  refine aw_getI K gX7_154 dX7_readLine_119 rfl rfl ?_
  refine aw_if_ne (tgt := 143) K dX7_readLine_122 (by decide) (fun b122 => ?_) (fun b122 => ?_)
  · refine aw_al0 K dX7_readLine_143 ?_
    refine aw_getI K gX7_154 dX7_readLine_144 rfl rfl ?_
    refine aw_if_ne (tgt := 164) K dX7_readLine_147 (by decide) (fun b147 => ?_) (fun b147 => ?_)
    · refine aw_al0 K dX7_readLine_164 ?_
      refine aw_callV_V K (nxt_f l g sta _ f0) rfl (by decide) fX7_next lX7_195 dX7_readLine_165 rfl clsX7 rfl (Nat.le_of_ble_eq_true rfl) ?_
      refine aw_vret K rfl dX7_readLine_168 ?_
      exact hP
    · exact absurd b147 (f_pos f0)
  · exact absurd b122 (f_pos f0)
set_option maxHeartbeats 4000000 in
set_option maxRecDepth 100000 in
theorem tl79 {l : Launch} {g : Geo} {sta : Nat → Nat} {k : KT} {P : Option Value → HS → Prop} (K : AOK (wM l g sta) mX7_readLine k) (h : HS) (x : Int32) (f0 : 0 < h.1 0 22) (hP : P none h) : AW (wM l g sta) P 6 mX7_readLine k 79 [some (.ref (g.2.1 0)), some (.int x), none] [] h := by
  refine aw_al0 K dX7_readLine_79 ?_
  refine aw_getI K gX7_154 dX7_readLine_80 rfl rfl ?_
  refine aw_if_ne (tgt := 109) K dX7_readLine_83 (by decide) (fun b83 => ?_) (fun b83 => ?_)
  · refine aw_al0 K dX7_readLine_109 ?_
    refine aw_getI K gX7_184 dX7_readLine_110 rfl rfl ?_
    refine aw_is2 K dX7_readLine_113 (by decide) rfl ?_
    refine aw_al0 K dX7_readLine_114 ?_
    refine aw_callV_V K (nxt_f l g sta _ f0) rfl (by decide) fX7_next lX7_195 dX7_readLine_115 rfl clsX7 rfl (Nat.le_of_ble_eq_true rfl) ?_
    exact tl118 K h x _ f0 hP
  · exact absurd b83 (f_pos f0)
set_option maxHeartbeats 4000000 in
set_option maxRecDepth 100000 in
theorem rlC {l : Launch} {g : Geo} {sta : Nat → Nat} {k : KT} (K : AOK (wM l g sta) mX7_readLine k) (h : HS) (hh : HS) (f : Nat → Int32) (L : Nat) (hby : ∀ j, j < L → ¬ f j < 0) (r : Nat) (hr : r < 10) (v : Int32) (C : Nat × Nat × Nat × Int32) (a : LMf hh h) (h12 : h.1 12 = hh.1 12) (h13 : h.1 13 = hh.1 13) (m : MT h f L) (hC : C.2.2.1 < 4 → C.2.1 ≤ L) (z : TM h C) :
    AW (wM l g sta) (fun o h' => o = none ∧ RLM hh h' f L (lnC C r v)) 6 mX7_readLine k 118 [some (.ref (g.2.1 0)), some (.int (nI r)), some (.int v)] [] h := by
  rcases z.k with q | q
  · refine tl118 K h _ v (by rw [q.2.1]; decide) ⟨rfl, ?_⟩
    rw [lnC, if_pos q.1]
    exact RLM.no a (by decide) q.2.1 q.2.2
  · rw [lnC, if_neg (show ¬ C.2.2.1 = 4 by omega)]
    by_cases y : C.2.2.1 = 3
    · rw [if_pos y]
      refine aw_al0 K dX7_readLine_118 ?_
      refine aw_getI K gX7_154 dX7_readLine_119 rfl rfl ?_
      refine aw_if_ne (tgt := 143) K dX7_readLine_122 (by decide) (fun b122 => ?_) (fun b122 => ?_)
      · exact absurd q.2.1 b122
      · refine aw_al0 K dX7_readLine_125 ?_
        refine aw_al0 K dX7_readLine_126 ?_
        refine aw_getI K gX7_173 dX7_readLine_127 rfl rfl ?_
        refine aw_iconst (v := 3) K dX7_readLine_130 (by decide) ?_
        refine aw_icmp_ne (tgt := 138) K dX7_readLine_131 (by decide) (fun b131 => ?_) (fun b131 => ?_)
        · exact absurd (by rw [q.2.2.2.1, y]; rfl) b131
        · refine aw_iconst (v := 1) K dX7_readLine_134 (by decide) ?_
          refine aw_goto (tgt := 139) K dX7_readLine_135 (by decide) ?_
          refine aw_iconst (v := 2) K dX7_readLine_139 (by decide) ?_
          refine aw_callV_V K (wnt_y l g sta _ _ _ (by decide)) rfl (by decide) fX7_wants lX7_187 dX7_readLine_140 rfl clsX7 rfl (Nat.le_of_ble_eq_true rfl) ?_
          refine aw_al0 K dX7_readLine_143 ?_
          refine aw_getI K gX7_154 dX7_readLine_144 rfl rfl ?_
          refine aw_if_ne (tgt := 164) K dX7_readLine_147 (by decide) (fun b147 => ?_) (fun b147 => ?_)
          · exact absurd q.2.1 b147
          · refine aw_al0 K dX7_readLine_150 ?_
            refine aw_getR K gX7_47 dX7_readLine_151 rfl rfl ?_
            refine aw_il1 K dX7_readLine_154 ?_
            refine aw_iconst (v := 1) K dX7_readLine_155 (by decide) ?_
            refine aw_zast K dX7_readLine_156 rfl (vp_in_nI hr (by decide)) ?_
            refine aw_al0 K dX7_readLine_157 ?_
            refine aw_getR K gX7_44 dX7_readLine_158 rfl rfl ?_
            refine aw_il1 K dX7_readLine_161 ?_
            refine aw_il2 K dX7_readLine_162 ?_
            refine aw_iast K dX7_readLine_163 rfl (vp_in_nI hr (by decide)) ?_
            refine aw_al0 K dX7_readLine_164 ?_
            rw [nI_clamp (show r < 2 ^ 31 by omega)]
            have mm : MT (setI (setI h 13 r (vp_nar .boolean 1)) 12 r v) f L := m
            refine aw_callV K (tX7_next l g sta _ f L C.2.1 mm hby q.2.1 q.2.2.1 (hC q.1)) rfl (by decide) fX7_next lX7_195 dX7_readLine_165 rfl clsX7 rfl (Nat.le_of_ble_eq_true rfl) (fun o h2 hq => ?_)
            obtain ⟨rfl, z2, z3⟩ := hq
            refine aw_vret K rfl dX7_readLine_168 ?_
            refine ⟨rfl, ((a.dr (Or.inr rfl)).dr (Or.inl rfl)).fr z2, fun _ => ⟨z3, ?_, ?_⟩, fun u => absurd rfl u⟩
            · rw [z2.1 13 (by decide), ← h13]
              rfl
            · rw [z2.1 12 (by decide), ← h12]
              rfl
    · rw [if_neg y]
      refine aw_al0 K dX7_readLine_118 ?_
      refine aw_getI K gX7_154 dX7_readLine_119 rfl rfl ?_
      refine aw_if_ne (tgt := 143) K dX7_readLine_122 (by decide) (fun b122 => ?_) (fun b122 => ?_)
      · exact absurd q.2.1 b122
      · refine aw_al0 K dX7_readLine_125 ?_
        refine aw_al0 K dX7_readLine_126 ?_
        refine aw_getI K gX7_173 dX7_readLine_127 rfl rfl ?_
        refine aw_iconst (v := 3) K dX7_readLine_130 (by decide) ?_
        refine aw_icmp_ne (tgt := 138) K dX7_readLine_131 (by decide) (fun b131 => ?_) (fun b131 => ?_)
        · refine aw_iconst (v := 0) K dX7_readLine_138 (by decide) ?_
          refine aw_iconst (v := 2) K dX7_readLine_139 (by decide) ?_
          refine aw_callV_V K (wnt_n l g sta _ _ q.2.1) rfl (by decide) fX7_wants lX7_187 dX7_readLine_140 rfl clsX7 rfl (Nat.le_of_ble_eq_true rfl) ?_
          refine aw_al0 K dX7_readLine_143 ?_
          refine aw_getI K gX7_154 dX7_readLine_144 rfl rfl ?_
          refine aw_if_ne (tgt := 164) K dX7_readLine_147 (by decide) (fun b147 => ?_) (fun b147 => ?_)
          · refine aw_al0 K dX7_readLine_164 ?_
            refine aw_callV_V K (nxt_f l g sta _ (by show (0 : Int32) < 2; decide)) rfl (by decide) fX7_next lX7_195 dX7_readLine_165 rfl clsX7 rfl (Nat.le_of_ble_eq_true rfl) ?_
            refine aw_vret K rfl dX7_readLine_168 ?_
            exact ⟨rfl, RLM.no (a.fr ((MFr.rf.pt rfl).pt rfl)) (by decide) rfl z.1⟩
          · exact absurd b147 (by show ¬ (2 : Int32) = 0; decide)
        · exact absurd b131 (k_ne (a := 3) q.2.2.2.1 q.1 (by decide) y)
set_option maxHeartbeats 4000000 in
set_option maxRecDepth 100000 in
theorem rlB {l : Launch} {g : Geo} {sta : Nat → Nat} {k : KT} (K : AOK (wM l g sta) mX7_readLine k) (h : HS) (hh : HS) (f : Nat → Int32) (L : Nat) (hby : ∀ j, j < L → ¬ f j < 0) (r : Nat) (hr : r < 10) (B : Nat × Nat × Nat × Int32) (a : LMf hh h) (h12 : h.1 12 = hh.1 12) (h13 : h.1 13 = hh.1 13) (m : MT h f L) (hB : B.2.2.1 < 4 → B.2.1 ≤ L) (z : TM h B) :
    AW (wM l g sta) (fun o h' => o = none ∧ RLM hh h' f L (lnB f L B r)) 6 mX7_readLine k 54 [some (.ref (g.2.1 0)), some (.int (nI r)), none] [] h := by
  rcases z.k with q | q
  · rw [lnB, if_pos q.1]
    refine aw_al0 K dX7_readLine_54 ?_
    refine aw_getI K gX7_154 dX7_readLine_55 rfl rfl ?_
    refine aw_if_ne (tgt := 79) K dX7_readLine_58 (by decide) (fun b58 => ?_) (fun b58 => ?_)
    · exact tl79 K h _ (by rw [q.2.1]; decide) ⟨rfl, RLM.no a (by decide) q.2.1 q.2.2⟩
    · rw [q.2.1] at b58
      exact absurd b58 (by decide)
  · rw [lnB, if_neg (show ¬ B.2.2.1 = 4 by omega)]
    by_cases y : B.2.2.1 = 2
    · rw [if_pos y]
      have e6 := q.2.2.2.2 (Or.inr y)
      by_cases u : aw_r1 r ≤ B.2.2.2 ∧ B.2.2.2 ≤ aw_r2 r
      · rw [if_pos u]
        refine aw_al0 K dX7_readLine_54 ?_
        refine aw_getI K gX7_154 dX7_readLine_55 rfl rfl ?_
        refine aw_if_ne (tgt := 79) K dX7_readLine_58 (by decide) (fun b58 => ?_) (fun b58 => ?_)
        · exact absurd q.2.1 b58
        · refine aw_al0 K dX7_readLine_61 ?_
          refine aw_al0 K dX7_readLine_62 ?_
          refine aw_getI K gX7_173 dX7_readLine_63 rfl rfl ?_
          refine aw_iconst (v := 2) K dX7_readLine_66 (by decide) ?_
          refine aw_icmp_ne (tgt := 74) K dX7_readLine_67 (by decide) (fun b67 => ?_) (fun b67 => ?_)
          · exact absurd (by rw [q.2.2.2.1, y]; rfl) b67
          · refine aw_iconst (v := 1) K dX7_readLine_70 (by decide) ?_
            refine aw_goto (tgt := 75) K dX7_readLine_71 (by decide) ?_
            refine aw_iconst (v := 2) K dX7_readLine_75 (by decide) ?_
            refine aw_callV_V K (wnt_y l g sta _ _ _ (by decide)) rfl (by decide) fX7_wants lX7_187 dX7_readLine_76 rfl clsX7 rfl (Nat.le_of_ble_eq_true rfl) ?_
            refine aw_al0 K dX7_readLine_79 ?_
            refine aw_getI K gX7_154 dX7_readLine_80 rfl rfl ?_
            refine aw_if_ne (tgt := 109) K dX7_readLine_83 (by decide) (fun b83 => ?_) (fun b83 => ?_)
            · exact absurd q.2.1 b83
            · refine aw_al0 K dX7_readLine_86 ?_
              refine aw_al0 K dX7_readLine_87 ?_
              refine aw_getI K gX7_184 dX7_readLine_88 rfl rfl ?_
              rw [e6]
              refine aw_i2l K dX7_readLine_91 ?_
              refine aw_il1 K dX7_readLine_92 ?_
              refine aw_callS_I K (tX7_least l g sta _ r hr) rfl (by decide) fX7_least lX7_198 dX7_readLine_93 rfl (Nat.le_of_ble_eq_true rfl) ?_
              refine aw_i2l K dX7_readLine_96 ?_
              refine aw_il1 K dX7_readLine_97 ?_
              refine aw_callS_I K (tX7_most l g sta _ r hr) rfl (by decide) fX7_most lX7_201 dX7_readLine_98 rfl (Nat.le_of_ble_eq_true rfl) ?_
              refine aw_i2l K dX7_readLine_101 ?_
              refine aw_callS_I K (in32 l g sta _ _ (aw_r1 r) (aw_r2 r) rfl rfl) rfl (by decide) fX7_in lX7_102 dX7_readLine_102 rfl (Nat.le_of_ble_eq_true rfl) ?_
              rw [bI_t u]
              refine aw_iconst (v := 3) K dX7_readLine_105 (by decide) ?_
              refine aw_callV_V K (wnt_y l g sta _ _ _ (by decide)) rfl (by decide) fX7_wants lX7_187 dX7_readLine_106 rfl clsX7 rfl (Nat.le_of_ble_eq_true rfl) ?_
              refine aw_al0 K dX7_readLine_109 ?_
              refine aw_getI K gX7_184 dX7_readLine_110 rfl rfl ?_
              rw [e6]
              refine aw_is2 K dX7_readLine_113 (by decide) rfl ?_
              refine aw_al0 K dX7_readLine_114 ?_
              refine aw_callV K (tX7_next l g sta _ f L B.2.1 m hby q.2.1 q.2.2.1 (hB q.1)) rfl (by decide) fX7_next lX7_195 dX7_readLine_115 rfl clsX7 rfl (Nat.le_of_ble_eq_true rfl) (fun o h2 hq => ?_)
              obtain ⟨rfl, z2, z3⟩ := hq
              exact rlC K _ hh f L hby r hr _ _ (a.fr z2) ((z2.1 12 (by decide)).trans h12) ((z2.1 13 (by decide)).trans h13) (m.fr z2) (tok_e (hB q.1)) z3
      · rw [if_neg u]
        refine aw_al0 K dX7_readLine_54 ?_
        refine aw_getI K gX7_154 dX7_readLine_55 rfl rfl ?_
        refine aw_if_ne (tgt := 79) K dX7_readLine_58 (by decide) (fun b58 => ?_) (fun b58 => ?_)
        · exact absurd q.2.1 b58
        · refine aw_al0 K dX7_readLine_61 ?_
          refine aw_al0 K dX7_readLine_62 ?_
          refine aw_getI K gX7_173 dX7_readLine_63 rfl rfl ?_
          refine aw_iconst (v := 2) K dX7_readLine_66 (by decide) ?_
          refine aw_icmp_ne (tgt := 74) K dX7_readLine_67 (by decide) (fun b67 => ?_) (fun b67 => ?_)
          · exact absurd (by rw [q.2.2.2.1, y]; rfl) b67
          · refine aw_iconst (v := 1) K dX7_readLine_70 (by decide) ?_
            refine aw_goto (tgt := 75) K dX7_readLine_71 (by decide) ?_
            refine aw_iconst (v := 2) K dX7_readLine_75 (by decide) ?_
            refine aw_callV_V K (wnt_y l g sta _ _ _ (by decide)) rfl (by decide) fX7_wants lX7_187 dX7_readLine_76 rfl clsX7 rfl (Nat.le_of_ble_eq_true rfl) ?_
            refine aw_al0 K dX7_readLine_79 ?_
            refine aw_getI K gX7_154 dX7_readLine_80 rfl rfl ?_
            refine aw_if_ne (tgt := 109) K dX7_readLine_83 (by decide) (fun b83 => ?_) (fun b83 => ?_)
            · exact absurd q.2.1 b83
            · refine aw_al0 K dX7_readLine_86 ?_
              refine aw_al0 K dX7_readLine_87 ?_
              refine aw_getI K gX7_184 dX7_readLine_88 rfl rfl ?_
              rw [e6]
              refine aw_i2l K dX7_readLine_91 ?_
              refine aw_il1 K dX7_readLine_92 ?_
              refine aw_callS_I K (tX7_least l g sta _ r hr) rfl (by decide) fX7_least lX7_198 dX7_readLine_93 rfl (Nat.le_of_ble_eq_true rfl) ?_
              refine aw_i2l K dX7_readLine_96 ?_
              refine aw_il1 K dX7_readLine_97 ?_
              refine aw_callS_I K (tX7_most l g sta _ r hr) rfl (by decide) fX7_most lX7_201 dX7_readLine_98 rfl (Nat.le_of_ble_eq_true rfl) ?_
              refine aw_i2l K dX7_readLine_101 ?_
              refine aw_callS_I K (in32 l g sta _ _ (aw_r1 r) (aw_r2 r) rfl rfl) rfl (by decide) fX7_in lX7_102 dX7_readLine_102 rfl (Nat.le_of_ble_eq_true rfl) ?_
              rw [bI_f u]
              refine aw_iconst (v := 3) K dX7_readLine_105 (by decide) ?_
              refine aw_callV_V K (wnt_n l g sta _ _ q.2.1) rfl (by decide) fX7_wants lX7_187 dX7_readLine_106 rfl clsX7 rfl (Nat.le_of_ble_eq_true rfl) ?_
              refine aw_al0 K dX7_readLine_109 ?_
              refine aw_getI K gX7_184 dX7_readLine_110 rfl rfl ?_
              refine aw_is2 K dX7_readLine_113 (by decide) rfl ?_
              refine aw_al0 K dX7_readLine_114 ?_
              refine aw_callV_V K (nxt_f l g sta _ (by show (0 : Int32) < 3; decide)) rfl (by decide) fX7_next lX7_195 dX7_readLine_115 rfl clsX7 rfl (Nat.le_of_ble_eq_true rfl) ?_
              exact tl118 K _ _ _ (by show (0 : Int32) < 3; decide) ⟨rfl, RLM.no (a.fr ((MFr.rf.pt rfl).pt rfl)) (by decide) rfl z.1⟩
    · rw [if_neg y]
      refine aw_al0 K dX7_readLine_54 ?_
      refine aw_getI K gX7_154 dX7_readLine_55 rfl rfl ?_
      refine aw_if_ne (tgt := 79) K dX7_readLine_58 (by decide) (fun b58 => ?_) (fun b58 => ?_)
      · exact absurd q.2.1 b58
      · refine aw_al0 K dX7_readLine_61 ?_
        refine aw_al0 K dX7_readLine_62 ?_
        refine aw_getI K gX7_173 dX7_readLine_63 rfl rfl ?_
        refine aw_iconst (v := 2) K dX7_readLine_66 (by decide) ?_
        refine aw_icmp_ne (tgt := 74) K dX7_readLine_67 (by decide) (fun b67 => ?_) (fun b67 => ?_)
        · refine aw_iconst (v := 0) K dX7_readLine_74 (by decide) ?_
          refine aw_iconst (v := 2) K dX7_readLine_75 (by decide) ?_
          refine aw_callV_V K (wnt_n l g sta _ _ q.2.1) rfl (by decide) fX7_wants lX7_187 dX7_readLine_76 rfl clsX7 rfl (Nat.le_of_ble_eq_true rfl) ?_
          exact tl79 K _ _ (by show (0 : Int32) < 2; decide) ⟨rfl, RLM.no (a.fr ((MFr.rf.pt rfl).pt rfl)) (by decide) rfl z.1⟩
        · exact absurd b67 (k_ne (a := 2) q.2.2.2.1 q.1 (by decide) y)
set_option maxHeartbeats 4000000 in
set_option maxRecDepth 100000 in
theorem tX7_readLine (l : Launch) (g : Geo) (sta : Nat → Nat) (h : HS) (f : Nat → Int32) (L p : Nat) (t : Nat → Bool) (hby : ∀ j, j < L → ¬ f j < 0) (m : MT h f L) (hp : p ≤ L) (ht : ∀ j, j < 10 → (h.1 13 j = 0 ↔ t j = false)) (f0 : h.1 0 22 = 0) (z : TM h (tok f L p)) : CT (wM l g sta) 6 mX7_readLine [.ref (g.2.1 0)] h (fun o h' => o = none ∧ RLM h h' f L (lnF f L t (tok f L p))) := by
  refine CT.at [some (.ref (g.2.1 0)), none, none] 2 rfl (by decide) (Nat.le_of_ble_eq_true rfl) (fun k K => ?_)
  rcases z.k with q | q
  · rw [q.2.1] at f0
    exact absurd f0 (by decide)
  · rw [lnF, if_neg (show ¬ (tok f L p).2.2.1 = 4 by omega)]
    by_cases y : (tok f L p).2.2.1 = 1
    · rw [if_pos y]
      have e6 := q.2.2.2.2 (Or.inl y)
      obtain ⟨r, hr, er⟩ := tok_v y
      have ec : (tok f L p).2.2.2.toNatClampNeg = r := by rw [er, nI_clamp (by omega)]
      rw [er] at e6
      rw [ec]
      have hr2 := ht r hr
      refine aw_al0 K dX7_readLine_0 ?_
      refine aw_getI K gX7_184 dX7_readLine_1 rfl rfl ?_
      rw [e6]
      refine aw_is1 K dX7_readLine_4 (by decide) rfl ?_
      refine aw_al0 K dX7_readLine_5 ?_
      refine aw_al0 K dX7_readLine_6 ?_
      refine aw_getI K gX7_173 dX7_readLine_7 rfl rfl ?_
      refine aw_iconst (v := 1) K dX7_readLine_10 (by decide) ?_
      refine aw_icmp_ne (tgt := 18) K dX7_readLine_11 (by decide) (fun b11 => ?_) (fun b11 => ?_)
      · exact absurd (by rw [q.2.2.2.1, y]; rfl) b11
      · refine aw_iconst (v := 1) K dX7_readLine_14 (by decide) ?_
        refine aw_goto (tgt := 19) K dX7_readLine_15 (by decide) ?_
        refine aw_iconst (v := 2) K dX7_readLine_19 (by decide) ?_
        refine aw_callV_V K (wnt_y l g sta _ _ _ (by decide)) rfl (by decide) fX7_wants lX7_187 dX7_readLine_20 rfl clsX7 rfl (Nat.le_of_ble_eq_true rfl) ?_
        refine aw_al0 K dX7_readLine_23 ?_
        refine aw_getI K gX7_154 dX7_readLine_24 rfl rfl ?_
        refine aw_if_le (tgt := 31) K dX7_readLine_27 (by decide) (fun b27 => ?_) (fun b27 => ?_)
        · refine aw_al0 K dX7_readLine_31 ?_
          refine aw_al0 K dX7_readLine_32 ?_
          refine aw_getR K gX7_47 dX7_readLine_33 rfl rfl ?_
          refine aw_il1 K dX7_readLine_36 ?_
          refine aw_zald K dX7_readLine_37 rfl (vp_in_nI hr (by decide)) ?_
          rw [nI_clamp (show r < 2 ^ 31 by omega)]
          refine aw_if_ne (tgt := 45) K dX7_readLine_38 (by decide) (fun b38 => ?_) (fun b38 => ?_)
          · have u : t r = true := by
              cases w : t r
              · exact absurd (hr2.mpr w) b38
              · rfl
            rw [if_pos u]
            refine aw_iconst (v := 0) K dX7_readLine_45 (by decide) ?_
            refine aw_iconst (v := 4) K dX7_readLine_46 (by decide) ?_
            refine aw_callV_V K (wnt_n l g sta _ _ q.2.1) rfl (by decide) fX7_wants lX7_187 dX7_readLine_47 rfl clsX7 rfl (Nat.le_of_ble_eq_true rfl) ?_
            refine aw_al0 K dX7_readLine_50 ?_
            refine aw_callV_V K (nxt_f l g sta _ (by show (0 : Int32) < 4; decide)) rfl (by decide) fX7_next lX7_195 dX7_readLine_51 rfl clsX7 rfl (Nat.le_of_ble_eq_true rfl) ?_
            refine aw_al0 K dX7_readLine_54 ?_
            refine aw_getI K gX7_154 dX7_readLine_55 rfl rfl ?_
            refine aw_if_ne (tgt := 79) K dX7_readLine_58 (by decide) (fun b58 => ?_) (fun b58 => ?_)
            · exact tl79 K _ _ (by show (0 : Int32) < 4; decide) ⟨rfl, RLM.no (LMf.rf.fr ((MFr.rf.pt rfl).pt rfl)) (by decide) rfl z.1⟩
            · exact absurd b58 (by show ¬ (4 : Int32) = 0; decide)
          · have u : ¬ t r = true := by rw [hr2.mp b38]; decide
            rw [if_neg u]
            refine aw_iconst (v := 1) K dX7_readLine_41 (by decide) ?_
            refine aw_goto (tgt := 46) K dX7_readLine_42 (by decide) ?_
            refine aw_iconst (v := 4) K dX7_readLine_46 (by decide) ?_
            refine aw_callV_V K (wnt_y l g sta _ _ _ (by decide)) rfl (by decide) fX7_wants lX7_187 dX7_readLine_47 rfl clsX7 rfl (Nat.le_of_ble_eq_true rfl) ?_
            refine aw_al0 K dX7_readLine_50 ?_
            refine aw_callV K (tX7_next l g sta _ f L (tok f L p).2.1 m hby q.2.1 q.2.2.1 (tok_e hp q.1)) rfl (by decide) fX7_next lX7_195 dX7_readLine_51 rfl clsX7 rfl (Nat.le_of_ble_eq_true rfl) (fun o h2 hq => ?_)
            obtain ⟨rfl, z2, z3⟩ := hq
            exact rlB K _ h f L hby r hr _ (LMf.rf.fr z2) (z2.1 12 (by decide)) (z2.1 13 (by decide)) (m.fr z2) (tok_e (tok_e hp q.1)) z3
        · rw [q.2.1] at b27
          exact absurd (by decide) b27
    · rw [if_neg y]
      refine aw_al0 K dX7_readLine_0 ?_
      refine aw_getI K gX7_184 dX7_readLine_1 rfl rfl ?_
      refine aw_is1 K dX7_readLine_4 (by decide) rfl ?_
      refine aw_al0 K dX7_readLine_5 ?_
      refine aw_al0 K dX7_readLine_6 ?_
      refine aw_getI K gX7_173 dX7_readLine_7 rfl rfl ?_
      refine aw_iconst (v := 1) K dX7_readLine_10 (by decide) ?_
      refine aw_icmp_ne (tgt := 18) K dX7_readLine_11 (by decide) (fun b11 => ?_) (fun b11 => ?_)
      · refine aw_iconst (v := 0) K dX7_readLine_18 (by decide) ?_
        refine aw_iconst (v := 2) K dX7_readLine_19 (by decide) ?_
        refine aw_callV_V K (wnt_n l g sta _ _ q.2.1) rfl (by decide) fX7_wants lX7_187 dX7_readLine_20 rfl clsX7 rfl (Nat.le_of_ble_eq_true rfl) ?_
        refine aw_al0 K dX7_readLine_23 ?_
        refine aw_getI K gX7_154 dX7_readLine_24 rfl rfl ?_
        refine aw_if_le (tgt := 31) K dX7_readLine_27 (by decide) (fun b27 => ?_) (fun b27 => ?_)
        · exact absurd b27 (by show ¬ (2 : Int32) ≤ 0; decide)
        · refine aw_vret K rfl dX7_readLine_30 ?_
          exact ⟨rfl, RLM.no (LMf.rf.fr ((MFr.rf.pt rfl).pt rfl)) (by decide) rfl z.1⟩
      · exact absurd b11 (k_ne (a := 1) q.2.2.2.1 q.1 (by decide) y)
def cnt (t : Nat → Bool) : Nat → Nat
  | 0 => 0
  | k + 1 => cnt t k + (if t k = true then 1 else 0)
theorem cnt_le (t : Nat → Bool) : ∀ k, cnt t k ≤ k
  | 0 => Nat.le_refl _
  | k + 1 => by
    have := cnt_le t k
    unfold cnt
    split <;> omega
theorem cnt_o {t : Nat → Bool} {r : Nat} : ∀ k, k ≤ r → cnt (tset t r) k = cnt t k
  | 0, _ => rfl
  | k + 1, h => by
    unfold cnt
    have e : tset t r k = t k := if_neg (by omega)
    rw [cnt_o k (by omega), e]
theorem cnt_set {t : Nat → Bool} {r : Nat} (hr : t r = false) : ∀ k, r < k → cnt (tset t r) k = cnt t k + 1
  | 0, h => absurd h (Nat.not_lt_zero _)
  | k + 1, h => by
    unfold cnt
    by_cases q : k = r
    · subst q
      have e : tset t k k = true := if_pos rfl
      rw [cnt_o k (Nat.le_refl _), e, hr]
      simp
    · have e : tset t r k = t k := if_neg q
      rw [cnt_set hr k (by omega), e]
      omega
theorem lnF_c {f : Nat → Int32} {L : Nat} {t : Nat → Bool} {T : Nat × Nat × Nat × Int32} : (lnF f L t T).1 = 0 ∨ 0 < (lnF f L t T).1 := by
  unfold lnF lnB lnC
  repeat' split
  all_goals first | exact Or.inl rfl | exact Or.inr (by decide) | exact Or.inr (by show (0 : Int32) < 1; decide) | exact Or.inr (by show (0 : Int32) < 2; decide) | exact Or.inr (by show (0 : Int32) < 3; decide) | exact Or.inr (by show (0 : Int32) < 4; decide)
/-- the rules as they are told, told of the reference -/
def rulM (h h' : HS) (R : Int32 × Int32 × (Nat → Int32)) : Prop := (∀ c, c ≠ 0 → c ≠ 11 → c ≠ 12 → c ≠ 13 → h'.1 c = h.1 c) ∧ (∀ j, j < 17 ∨ 23 < j → h'.1 0 j = h.1 0 j) ∧ h'.1 0 17 = 0 ∧ h'.1 0 22 = R.1 ∧ h'.1 11 = (if R.1 = 0 then (fun j => if j < 10 then R.2.2 j else h.1 11 j) else h.1 11)
set_option maxHeartbeats 4000000 in
set_option maxRecDepth 100000 in
theorem ru_f {l : Launch} {g : Geo} {sta : Nat → Nat} {k : KT} (K : AOK (wM l g sta) mX7_rules k) (hh h : HS) (x : Int32) (c : Int32) (s : Nat) (d : Nat → Int32) (a : LMf hh h) (hc : 0 < c) (e1 : h.1 0 22 = c) (e2 : h.1 0 23 = nI s) : AW (wM l g sta) (fun o h' => o = some (.int ((c, -10 - nI s, d)).2.1) ∧ rulM hh h' ((c, -10 - nI s, d))) 7 mX7_rules k 44 [some (.ref (g.2.1 0)), some (.int x)] [] h := by
  refine aw_al0 K dX7_rules_44 ?_
  refine aw_iconst (v := 0) K dX7_rules_45 (by decide) ?_
  refine aw_putI K gX7_149 fpX7_17 dX7_rules_46 rfl rfl ?_
  refine aw_al0 K dX7_rules_49 ?_
  refine aw_getI K gX7_154 dX7_rules_50 rfl rfl ?_
  refine aw_if_le (tgt := 64) K dX7_rules_53 (by decide) (fun b53 => ?_) (fun b53 => ?_)
  · exact absurd hc (Int32.not_lt.mpr (e1 ▸ b53))
  · refine aw_bipush (v := (-10)) K dX7_rules_56 (by decide) ?_
    refine aw_al0 K dX7_rules_58 ?_
    refine aw_getI K gX7_160 dX7_rules_59 rfl rfl ?_
    refine aw_isub K dX7_rules_62 ?_
    refine aw_iret K rfl dX7_rules_63 ?_
    refine ⟨?_, fun q h0 h11 h12 h13 => ?_, fun j hj => ?_, rfl, e1, ?_⟩
    · show some (Value.int (-10 - h.1 0 23)) = _
      rw [e2]
    · rw [setI_w h0]
      exact a.1 q h0 h12 h13
    · rw [rdI, if_neg (fun q => by omega)]
      exact a.2 j (by omega)
    · rw [if_neg (f_pos hc)]
      exact a.1 11 (by decide) (by decide) (by decide)
set_option maxHeartbeats 4000000 in
set_option maxRecDepth 100000 in
theorem ru_0 {l : Launch} {g : Geo} {sta : Nat → Nat} {k : KT} (K : AOK (wM l g sta) mX7_rules k) (hh h : HS) (n : Nat) (d : Nat → Int32) (a : LMf hh h) (e1 : h.1 0 22 = 0) (hd : ∀ j, j < 10 → h.1 12 j = d j) : AW (wM l g sta) (fun o h' => o = some (.int (((0 : Int32), nI n, d)).2.1) ∧ rulM hh h' (((0 : Int32), nI n, d))) 7 mX7_rules k 44 [some (.ref (g.2.1 0)), some (.int (nI n))] [] h := by
  refine aw_al0 K dX7_rules_44 ?_
  refine aw_iconst (v := 0) K dX7_rules_45 (by decide) ?_
  refine aw_putI K gX7_149 fpX7_17 dX7_rules_46 rfl rfl ?_
  refine aw_al0 K dX7_rules_49 ?_
  refine aw_getI K gX7_154 dX7_rules_50 rfl rfl ?_
  refine aw_if_le (tgt := 64) K dX7_rules_53 (by decide) (fun b53 => ?_) (fun b53 => ?_)
  · refine aw_al0 K dX7_rules_64 ?_
    refine aw_callV_V K (tX7_keepRules l g sta _) rfl (by decide) fX7_keepRules lX7_95 dX7_rules_65 rfl clsX7 rfl (Nat.le_of_ble_eq_true rfl) ?_
    refine aw_il1 K dX7_rules_68 ?_
    refine aw_iret K rfl dX7_rules_69 ?_
    refine ⟨rfl, fun q h0 h11 h12 h13 => ?_, fun j hj => ?_, rfl, e1, ?_⟩
    · show (setR (setI h 0 17 0) 11 _).1 q = _
      rw [rdR, if_neg h11, setI_w h0]
      exact a.1 q h0 h12 h13
    · show (setR (setI h 0 17 0) 11 _).1 0 j = _
      rw [rdR, if_neg (by decide), rdI, if_neg (fun q => by omega)]
      exact a.2 j (by omega)
    · rw [if_pos rfl]
      show (setR (setI h 0 17 0) 11 _).1 11 = _
      rw [rdR, if_pos rfl]
      funext j
      show (if j < 10 then h.1 12 j else h.1 11 j) = (if j < 10 then d j else hh.1 11 j)
      split
      · rename_i q
        exact hd j q
      · rw [a.1 11 (by decide) (by decide) (by decide)]
  · rw [show (setI h 0 17 0).1 0 22 = 0 from e1] at b53
    exact absurd (by decide) b53
set_option maxHeartbeats 4000000 in
set_option maxRecDepth 100000 in
theorem lpX7_rules {l : Launch} {g : Geo} {sta : Nat → Nat} {k : KT} (K : AOK (wM l g sta) mX7_rules k) (hh : HS) (f : Nat → Int32) (L : Nat) (hby : ∀ j, j < L → ¬ f j < 0) (mm : MT hh f L) :
    ∀ (mx n p : Nat) (t : Nat → Bool) (d : Nat → Int32) (h : HS), mx + n = 11 → cnt t 10 = n → p ≤ L → LMf hh h → TM h (tok f L p) → (∀ j, j < 10 → (h.1 13 j = 0 ↔ t j = false)) → (∀ j, j < 10 → h.1 12 j = d j) →
      AW (wM l g sta) (fun o h' => o = some (.int (prs f L mx p t d n).2.1) ∧ rulM hh h' (prs f L mx p t d n)) 7 mX7_rules k 20 [some (.ref (g.2.1 0)), some (.int (nI n))] [] h := by
  intro mx
  induction mx with
  | zero =>
    intro n p t d h k1 kc
    have := cnt_le t 10
    omega
  | succ mx ih =>
    intro n p t d h k1 kc kp a z ht hd
    have m : MT h f L := ⟨(a.1 14 (by decide) (by decide) (by decide)).trans mm.1, (a.2 17 (by decide)).trans mm.2.1, mm.2.2⟩
    rw [prs]
    rcases z.k with q | q
    · rw [if_neg (show ¬ (tok f L p).2.2.1 = 0 by omega), lnF, if_pos q.1, if_neg (show ¬ (1 : Int32) = 0 by decide)]
      refine aw_al0 K dX7_rules_20 ?_
      refine aw_getI K gX7_154 dX7_rules_21 rfl rfl ?_
      refine aw_if_ne (tgt := 44) K dX7_rules_24 (by decide) (fun b24 => ?_) (fun b24 => ?_)
      · exact ru_f K hh h _ 1 _ d a (by decide) q.2.1 q.2.2
      · rw [q.2.1] at b24
        exact absurd b24 (by decide)
    · by_cases y : (tok f L p).2.2.1 = 0
      · rw [if_pos y]
        refine aw_al0 K dX7_rules_20 ?_
        refine aw_getI K gX7_154 dX7_rules_21 rfl rfl ?_
        refine aw_if_ne (tgt := 44) K dX7_rules_24 (by decide) (fun b24 => ?_) (fun b24 => ?_)
        · exact absurd q.2.1 b24
        · refine aw_al0 K dX7_rules_27 ?_
          refine aw_getI K gX7_173 dX7_rules_28 rfl rfl ?_
          refine aw_if_eq (tgt := 44) K dX7_rules_31 (by decide) (fun b31 => ?_) (fun b31 => ?_)
          · exact ru_0 K hh h n d a q.2.1 hd
          · exact absurd (by rw [q.2.2.2.1, y]; rfl) b31
      · rw [if_neg y]
        refine aw_al0 K dX7_rules_20 ?_
        refine aw_getI K gX7_154 dX7_rules_21 rfl rfl ?_
        refine aw_if_ne (tgt := 44) K dX7_rules_24 (by decide) (fun b24 => ?_) (fun b24 => ?_)
        · exact absurd q.2.1 b24
        · refine aw_al0 K dX7_rules_27 ?_
          refine aw_getI K gX7_173 dX7_rules_28 rfl rfl ?_
          refine aw_if_eq (tgt := 44) K dX7_rules_31 (by decide) (fun b31 => ?_) (fun b31 => ?_)
          · exact absurd b31 (by rw [q.2.2.2.1]; exact fun u => y ((nI_eq (b := 0) (by omega) (by decide)).mp u))
          · refine aw_al0 K dX7_rules_34 ?_
            refine aw_callV K (tX7_readLine l g sta _ f L p t hby m kp ht q.2.1 z) rfl (by decide) fX7_readLine lX7_204 dX7_rules_35 rfl clsX7 rfl (Nat.le_of_ble_eq_true rfl) (fun o h2 hq => ?_)
            obtain ⟨rfl, x1, x2, x3⟩ := hq
            refine aw_ii1 (v := _ + 1) K dX7_rules_38 rfl (by decide) rfl ?_
            refine aw_goto (tgt := 20) K dX7_rules_41 (by decide) ?_
            rw [nI_1]
            by_cases u : (lnF f L t (tok f L p)).1 = 0
            · rw [if_pos u]
              have w1 := lnF_0 (t := t) kp u
              obtain ⟨y1, y2, y3⟩ := x2 u
              refine ih (n + 1) _ _ _ _ (by omega) (by rw [cnt_set w1.2.2.1 10 w1.2.1, kc]) w1.1 (a.tr x1) y1 (fun j hj => ?_) (fun j hj => ?_)
              · rw [y2]
                unfold upd tset
                by_cases v : j = (lnF f L t (tok f L p)).2.2.2.1
                · rw [if_pos v, if_pos v]
                  exact ⟨fun e => absurd e (by decide), fun e => absurd e (by decide)⟩
                · rw [if_neg v, if_neg v]
                  exact ht j hj
              · rw [y3]
                unfold upd
                split
                · rfl
                · exact hd j hj
            · rw [if_neg u]
              have y3 := x3 u
              have hc : 0 < (lnF f L t (tok f L p)).1 := (lnF_c (f := f) (L := L) (t := t) (T := tok f L p)).resolve_left u
              refine aw_al0 K dX7_rules_20 ?_
              refine aw_getI K gX7_154 dX7_rules_21 rfl rfl ?_
              refine aw_if_ne (tgt := 44) K dX7_rules_24 (by decide) (fun b24 => ?_) (fun b24 => ?_)
              · exact ru_f K hh _ _ _ _ d (a.tr x1) hc y3.1 y3.2
              · exact absurd b24 (by rw [y3.1]; exact u)
set_option maxHeartbeats 4000000 in
set_option maxRecDepth 100000 in
theorem tX7_rules (l : Launch) (g : Geo) (sta : Nat → Nat) (h : HS) (f : Nat → Int32) (L : Nat) (mm : MT h f L) (hby : ∀ j, j < L → ¬ f j < 0) : CT (wM l g sta) 7 mX7_rules [.ref (g.2.1 0)] h ((fun o h' => o = some (.int (prs f L 11 0 (fun _ => false) aw_r0 0).2.1) ∧ rulM h h' (prs f L 11 0 (fun _ => false) aw_r0 0))) := by
  refine CT.at [some (.ref (g.2.1 0)), none] 1 rfl (by decide) (Nat.le_of_ble_eq_true rfl) (fun k K => ?_)
  refine aw_iconst (v := 0) K dX7_rules_0 (by decide) ?_
  refine aw_is1 K dX7_rules_1 (by decide) rfl ?_
  refine aw_al0 K dX7_rules_2 ?_
  refine aw_iconst (v := 0) K dX7_rules_3 (by decide) ?_
  refine aw_putI K gX7_154 fpX7_22 dX7_rules_4 rfl rfl ?_
  refine aw_al0 K dX7_rules_7 ?_
  refine aw_iconst (v := 0) K dX7_rules_8 (by decide) ?_
  refine aw_putI K gX7_163 fpX7_18 dX7_rules_9 rfl rfl ?_
  refine aw_al0 K dX7_rules_12 ?_
  refine aw_callV_V K (tX7_firstRules l g sta _) rfl (by decide) fX7_firstRules lX7_92 dX7_rules_13 rfl clsX7 rfl (Nat.le_of_ble_eq_true rfl) ?_
  refine aw_al0 K dX7_rules_16 ?_
  refine aw_callV K (tX7_next l g sta _ f L 0 mm hby rfl rfl (Nat.zero_le _)) rfl (by decide) fX7_next lX7_195 dX7_rules_17 rfl clsX7 rfl (Nat.le_of_ble_eq_true rfl) (fun o h2 hq => ?_)
  obtain ⟨rfl, z2, z3⟩ := hq
  refine lpX7_rules K h f L hby mm 11 0 0 (fun _ => false) aw_r0 _ rfl (by decide) (Nat.zero_le _) ?_ z3 (fun j hj => ?_) (fun j hj => ?_)
  · refine LMf.fr ⟨fun c q1 q2 q3 => ?_, fun j hj => ?_⟩ z2
    · show (setR (setR _ 13 _) 12 _).1 c = _
      rw [rdR, if_neg q2, rdR, if_neg q3, setI_w q1, setI_w q1]
    · show (setI (setI h 0 22 0) 0 18 0).1 0 j = _
      rw [rdI, if_neg (fun q => by omega), rdI, if_neg (fun q => by omega)]
  · rw [z2.1 13 (by decide)]
    refine ⟨fun _ => rfl, fun _ => ?_⟩
    show fil _ 10 0 j = 0
    exact if_pos hj
  · rw [z2.1 12 (by decide)]
    show prf _ aw_r0 10 j = _
    exact if_pos hj

